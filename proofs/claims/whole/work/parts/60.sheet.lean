/-! writers: sheet, copy -/
/-- a row anew -/
def mbb (τ : MSt) (k : Nat) (a : Nat → Int32) : MSt := (τ.1, τ.2.1, fun j => if j = k then a else τ.2.2 j)
theorem mbb_j {τ : MSt} {k j : Nat} {a : Nat → Int32} (h : j ≠ k) : (mbb τ k a).2.2 j = τ.2.2 j := by
  show (if j = k then a else τ.2.2 j) = _
  rw [if_neg h]
theorem mbb_k {τ : MSt} {k : Nat} {a : Nat → Int32} : (mbb τ k a).2.2 k = a := by
  show (if k = k then a else τ.2.2 k) = _
  rw [if_pos rfl]
theorem mbb_self (τ : MSt) (k : Nat) : mbb τ k (τ.2.2 k) = τ := by
  refine Prod.ext rfl (Prod.ext rfl ?_)
  funext j
  show (if j = k then τ.2.2 k else τ.2.2 j) = τ.2.2 j
  by_cases c : j = k
  · rw [if_pos c, c]
  · rw [if_neg c]
theorem mbb_ma (τ : MSt) (k i : Nat) (x : Int32) (a : Nat → Int32) : mbb (ma τ k i x) k a = mbb τ k a := by
  refine Prod.ext rfl (Prod.ext rfl ?_)
  funext j
  show (if j = k then a else (if j = k then upd (τ.2.2 k) i x else τ.2.2 j)) = if j = k then a else τ.2.2 j
  by_cases c : j = k
  · rw [if_pos c, if_pos c]
  · rw [if_neg c, if_neg c, if_neg c]
theorem Dv.mbb {τ τ' : MSt} (h : Dv τ τ') {k : Nat} {a : Nat → Int32} (hk : ¬ (k ≤ 2 ∨ (16 ≤ k ∧ k ≤ 25))) : Dv τ (mbb τ' k a) := ⟨h.1, fun j hj => (mbb_j (fun z => hk (by subst z; exact hj))).trans (h.2 j hj)⟩
theorem sheetL (s : Nat) (hs : s < 4) (p2 : Int32) (h2 : ¬ p2 < 0) (z : Nat) (hz : z ≤ 40) : ∀ (n k : Nat) (τ : MSt), k ≤ z → z - k < n → ∃ a, f_X10_sheet_L77 n τ (nI s) p2 (nI z) (nI k) = (1, mbb τ 59 a) ∧ (∀ i, k ≤ i → i < z → a (40 * s + i) = 0) ∧ ∀ x, ¬ (40 * s + k ≤ x ∧ x < 40 * s + z) → a x = τ.2.2 59 x := by
  intro n
  induction n with
  | zero => intro k τ _ h; exact absurd h (Nat.not_lt_zero _)
  | succ n ih =>
    intro k τ hk hn
    rw [f_X10_sheet_L77]
    by_cases c : k = z
    · subst c
      rw [if_pos (Int32.le_refl _)]
      exact ⟨τ.2.2 59, by rw [mbb_self], fun i h1 h2 => by omega, fun _ _ => rfl⟩
    · have c1 : ¬ nI z ≤ nI k := fun q => by have := (nI_leI (by omega) (by omega)).mp q; omega
      rw [if_neg c1, if_neg h2, show (40 : Int32) * nI s = nI (40 * s) from pk_mul 40 s, nI_add, nI_clamp (show 40 * s + k < 2 ^ 31 by omega), nI_1]
      obtain ⟨a, e1, e2, e3⟩ := ih (k + 1) (ma τ 59 (40 * s + k) 0) (by omega) (by omega)
      refine ⟨a, by rw [e1, mbb_ma], fun i h1 h3 => ?_, fun x hx => ?_⟩
      · by_cases q : i = k
        · rw [q, e3 _ (by omega), ma_k, upd_at]
        · exact e2 i (by omega) h3
      · rw [e3 x (by omega), ma_k, upd_ne (by omega)]
section W3
variable {S : XSh} {σ σ' : XSt} {τ τ' : MSt}
theorem w_sheet (h : Al S σ τ) (p1 p2 p3 : Int32) : Wr S (f_X9_sheet S σ p1 p2 p3) (f_X10_sheet τ p1 p2 p3) := by
  have h0 := h
  obtain ⟨hR, hX, hM⟩ := h
  have ein : f_X10_in p2.toInt64 (-1) 2 = if -1 ≤ p2 ∧ p2 ≤ 2 then 1 else 0 := f_in_32 p2 (-1) 2
  unfold f_X9_sheet f_X10_sheet
  rw [ein]
  rcases eq_sheet (S := S) (σ := σ) p1 with ⟨q1, q2⟩ | ⟨q1, q2, s, hs, rfl⟩
  · rw [if_pos q1, if_pos q2]; exact Wr.no h0
  · rw [q1, q2, if_neg n10, if_neg n10, nI_clamp (show s < 2 ^ 31 by omega)]
    by_cases c1 : p2 < -1
    · rw [if_pos c1, if_neg (show ¬ (-1 ≤ p2 ∧ p2 ≤ 2) from fun q => Int32.not_le.mpr c1 q.1), if_pos rfl]; exact Wr.no h0
    · rw [if_neg c1]
      by_cases c2 : (2 : Int32) < p2
      · rw [if_pos c2, if_neg (show ¬ (-1 ≤ p2 ∧ p2 ≤ 2) from fun q => Int32.not_le.mpr c2 q.2), if_pos rfl]; exact Wr.no h0
      · rw [if_neg c2, if_pos (⟨Int32.not_lt.mp c1, Int32.not_lt.mp c2⟩ : -1 ≤ p2 ∧ p2 ≤ 2), if_neg n10]
        have key : ∀ (pr z : Int32) (a : Nat → Int32) (zz : Nat), zz ≤ 40 → z = nI zz → ((pr = 0 ∧ p2 = -1) ∨ (¬ pr = 0 ∧ ¬ p2 = -1 ∧ ∀ i, i < zz → a (40 * s + i) = 0)) → ∀ (y : Int32), (¬ pr = 0 → y = nI zz) → (∀ x, ¬ (40 * s ≤ x ∧ x < 40 * s + 40) → a x = τ.2.2 59 x) → Al S (f_X6_become S σ s p2 z) (mbb (ma (ma (ma τ 56 s pr) 57 s p2) 58 s y) 59 a) := by
          intro pr z a zz hzz ez hp y hy ha
          subst ez
          have v : Dv τ (mbb (ma (ma (ma τ 56 s pr) 57 s p2) 58 s y) 59 a) := ((((Dv.rf τ).ma (by omega)).ma (by omega)).ma (by omega)).mbb (by omega)
          have m (j : Nat) (hj : j < 56) : (mbb (ma (ma (ma τ 56 s pr) 57 s p2) 58 s y) 59 a).2.2 j = τ.2.2 j := by
            rw [mbb_j (by omega), ma_j (by omega), ma_j (by omega), ma_j (by omega)]
          have m56 : (mbb (ma (ma (ma τ 56 s pr) 57 s p2) 58 s y) 59 a).2.2 56 = upd (τ.2.2 56) s pr := by
            rw [mbb_j (by omega), ma_j (by omega), ma_j (by omega), ma_k]
          have m57 : (mbb (ma (ma (ma τ 56 s pr) 57 s p2) 58 s y) 59 a).2.2 57 = upd (τ.2.2 57) s p2 := by
            rw [mbb_j (by omega), ma_j (by omega), ma_k, ma_j (by omega)]
          have m58 : (mbb (ma (ma (ma τ 56 s pr) 57 s p2) 58 s y) 59 a).2.2 58 = upd (τ.2.2 58) s y := by
            rw [mbb_j (by omega), ma_k, ma_j (by omega), ma_j (by omega)]
          have x1 (c : Nat) (hc : c ≠ 6) : (f_X6_become S σ s p2 (nI zz)).1 c = σ.1 c := by
            unfold f_X6_become
            rw [xp_c hc, xp_c hc]
            rfl
          have x2 (c : Nat) (hc : c ≠ 30) : (f_X6_become S σ s p2 (nI zz)).2 c = σ.2 c := by
            unfold f_X6_become
            exact xb_c hc
          have x6 (t k : Nat) (ht : t ≠ s) : (f_X6_become S σ s p2 (nI zz)).1 6 t k = σ.1 6 t k := by
            unfold f_X6_become
            rw [xp_o (by omega), xp_o (by omega)]
            rfl
          have x61 : (f_X6_become S σ s p2 (nI zz)).1 6 s 1 = p2 := by
            unfold f_X6_become
            rw [xp_o (by omega), xp_s]
          have x62 : (f_X6_become S σ s p2 (nI zz)).1 6 s 2 = nI zz := by
            unfold f_X6_become
            rw [xp_s]
          have x30 (t : Nat) : (f_X6_become S σ s p2 (nI zz)).2 30 t = if t = s then fillF 40 0 (σ.2 30 s) else σ.2 30 t := by
            unfold f_X6_become
            show up3a σ.2 30 s (fillF 40 0 (σ.2 30 s)) 30 t = _
            by_cases q : t = s
            · rw [if_pos q, q, up3a_self]
            · rw [if_neg q, up3a_other _ _ (fun w => q w.2)]
          generalize f_X6_become S σ s p2 (nI zz) = σ1 at x1 x2 x6 x61 x62 x30
          have m1 : (mbb (ma (ma (ma τ 56 s pr) 57 s p2) 58 s y) 59 a).1 = τ.1 := rfl
          have m59 : (mbb (ma (ma (ma τ 56 s pr) 57 s p2) 58 s y) 59 a).2.2 59 = a := mbb_k
          generalize mbb (ma (ma (ma τ 56 s pr) 57 s p2) 58 s y) 59 a = τ1 at v m m56 m57 m58 m1 m59
          refine ⟨⟨hR.w.tr (x1 8 (by decide)) (by rw [m1]) (fun j a b => m j (by omega)), hR.b.tr (x1 1 (by decide)) v (by rw [m1]) (m 10 (by decide)), hR.s.tr (x1 3 (by decide)) (fun c a b => x2 c (by omega)) v, hR.d.tr (x1 1 (by decide)) v, hR.k.tr (fun c a b => x2 c (by omega)) (fun j a b => m j (by omega)), hR.i.tr (x1 2 (by decide)) (by rw [x2 20 (by decide)]) (by rw [x2 21 (by decide)]) (by rw [x2 22 (by decide)]) (x2 31 (by decide)) (fun j _ _ => by rw [m1]) (fun j a b => m j (by omega)), hR.r.tr (by rw [x1 9 (by decide)]) (x1 5 (by decide)) (x2 32 (by decide)) (by rw [m1]) (by rw [m1]) v, hR.t.tr (by rw [x1 4 (by decide)]) (x2 28 (by decide)) (by rw [m1]) (m 5 (by decide)), hR.g.tr (x1 7 (by decide)) v (fun j a b => m j (by omega)), fun t ht => ?_⟩, ?_, ?_⟩
          · rw [m56, m57, m58, m59]
            by_cases q : t = s
            · subst q
              rw [upd_at, upd_at, upd_at, x61, x62, x30, if_pos rfl]
              rcases hp with ⟨a1, a2⟩ | ⟨a1, a2, a3⟩
              · exact Or.inl ⟨a1, a2⟩
              · refine Or.inr ⟨a1, a2, rfl, (hy a1).symm, fun i hi => ?_⟩
                rw [hy a1, nI_clamp (by omega)] at hi
                rw [a3 i hi]
                show (if i < 40 then (0 : Int32) else _) = 0
                rw [if_pos (by omega)]
            · rw [upd_ne q, upd_ne q, upd_ne q, x6 t 1 q, x6 t 2 q, x30, if_neg q]
              rcases sheet_n hR hX ht with ⟨a', b'⟩ | ⟨a', b', c', z', hz', ez', ez2', e'⟩
              · exact Or.inl ⟨a', b'⟩
              · refine Or.inr ⟨a', b', c', ez'.trans ez2'.symm, fun k hk => ?_⟩
                rw [ez2', nI_clamp (by omega)] at hk
                rw [ha _ (by omega)]
                exact e' k hk
          · have hh := hX
            unfold XInv at hh ⊢
            rw [x1 9 (by decide), x1 3 (by decide), x1 4 (by decide), x1 2 (by decide), x2 23 (by decide)]
            refine ⟨hh.1, hh.2.1, hh.2.2.1, hh.2.2.2.1, hh.2.2.2.2.1, fun i hi => ?_, hh.2.2.2.2.2.2⟩
            by_cases q : i = s
            · rw [q, x62]; exact ⟨zz, hzz, rfl⟩
            · rw [x6 i 2 q]; exact hX.sh hi
          · have hh := hM
            unfold MInv at hh ⊢
            rw [m1, m 17 (by decide), m 18 (by decide), m 10 (by decide), m 19 (by decide), m 21 (by decide), m 16 (by decide), m 42 (by decide), m 43 (by decide), m 2 (by decide), m 1 (by decide), m 5 (by decide), m56, m58]
            refine ⟨hh.1, hh.2.1, hh.2.2.1, hh.2.2.2.1, hh.2.2.2.2.1, hh.2.2.2.2.2.1, hh.2.2.2.2.2.2.1, hh.2.2.2.2.2.2.2.1, hh.2.2.2.2.2.2.2.2.1, fun i => ?_, hh.2.2.2.2.2.2.2.2.2.2⟩
            by_cases q : i = s
            · rw [q, upd_at, upd_at]
              by_cases w : pr = 0
              · exact Or.inl w
              · exact Or.inr ⟨zz, hzz, hy w⟩
            · rw [upd_ne q, upd_ne q]; exact hM.sz i
        by_cases c3 : p2 = -1
        · have c4 : p2 < 0 := by rw [c3]; decide
          have L0 : ∀ t : MSt, f_X10_sheet_L77 42 t (nI s) p2 p3 0 = (1, mbb t 59 (t.2.2 59)) := by
            intro t
            rw [mbb_self, f_X10_sheet_L77]
            by_cases q : p3 ≤ 0
            · rw [if_pos q]
            · rw [if_neg q, if_pos c4]
          simp only [if_pos c3, if_pos c4]
          rw [L0]
          refine ⟨rfl, key 0 0 _ 0 (by decide) rfl (Or.inl ⟨rfl, c3⟩) p3 (fun w => absurd rfl w) (fun x _ => ?_)⟩
          rw [ma_j (by decide), ma_j (by decide), ma_j (by decide)]
        · have c4 : ¬ p2 < 0 := fun q => c3 (by
            have h1 := Int32.not_lt.mp c1
            have h2 := Int32.lt_iff_toInt_lt.mp q
            have h3 := Int32.le_iff_toInt_le.mp h1
            apply Int32.toInt_inj.mp
            have e0 : (0 : Int32).toInt = 0 := rfl
            have e1 : (-1 : Int32).toInt = -1 := rfl
            rw [e0] at h2
            rw [e1] at h3 ⊢
            omega)
          simp only [if_neg c3, if_neg c4]
          by_cases c5 : p3 ≤ 40
          · rw [if_pos c5, if_pos c5]
            by_cases c6 : 0 ≤ p3
            · rw [if_pos c6, if_pos c6]
              obtain ⟨z, hz, ez⟩ := nI_of_rg (N := 40) (by decide) c6 c5
              subst ez
              obtain ⟨a, e1, e2, e3⟩ := sheetL s hs p2 c4 z hz 42 0 (ma (ma (ma τ 56 s 1) 57 s p2) 58 s (nI z)) (Nat.zero_le _) (by omega)
              have e1' : f_X10_sheet_L77 42 (ma (ma (ma τ 56 s 1) 57 s p2) 58 s (nI z)) (nI s) p2 (nI z) 0 = (1, mbb (ma (ma (ma τ 56 s 1) 57 s p2) 58 s (nI z)) 59 a) := e1
              rw [e1']
              refine ⟨rfl, key 1 (nI z) a z hz rfl (Or.inr ⟨n10, c3, fun i hi => e2 i (Nat.zero_le _) hi⟩) (nI z) (fun _ => rfl) (fun x hx => ?_)⟩
              rw [e3 x (by omega), ma_j (by decide), ma_j (by decide), ma_j (by decide)]
            · rw [if_neg c6, if_neg c6]; exact Wr.no h0
          · rw [if_neg c5, if_neg c5]; exact Wr.no h0
end W3
