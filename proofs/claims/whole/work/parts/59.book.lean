/-! writers: book, cell -/
theorem xa_u {σ : XSt} {c i k : Nat} {x : Int32} : (xa σ c i k x).2 c i = upd (σ.2 c i) k x := up3_self _ _ _ _ _
theorem in_3 (p : Int32) : (f_X10_in p.toInt64 0 2 = 0 ∧ ¬ ∃ i : Nat, i < 3 ∧ p = nI i) ∨ (f_X10_in p.toInt64 0 2 = 1 ∧ ∃ i : Nat, i < 3 ∧ p = nI i) := by
  have := in_n p (n := 3) (by decide)
  rw [show (nI 3 - 1).toInt64 = 2 from by decide] at this
  exact this
theorem in_4 (p : Int32) : (f_X10_in p.toInt64 0 3 = 0 ∧ ¬ ∃ i : Nat, i < 4 ∧ p = nI i) ∨ (f_X10_in p.toInt64 0 3 = 1 ∧ ∃ i : Nat, i < 4 ∧ p = nI i) := by
  have := in_n p (n := 4) (by decide)
  rw [show (nI 4 - 1).toInt64 = 3 from by decide] at this
  exact this
theorem place_t : ∀ i, i < 3 → ∀ j, j < 4 → f_X0_place (nI i) (nI j) = 4 * nI i + nI j ∧ ¬ f_X0_place (nI i) (nI j) = -1 := by decide
theorem out_n {p : Int32} {n : Nat} (hn : n < 1000000) (h : ¬ ∃ i : Nat, i < n ∧ p = nI i) : p < 0 ∨ nI n ≤ p := by
  by_cases c : p < 0
  · exact Or.inl c
  · obtain ⟨j, hj, rfl⟩ := nI_of c
    refine Or.inr (Int32.not_lt.mp (fun z => h ⟨j, (nI_ltI hj (by omega)).mp z, rfl⟩))
theorem place_or (p1 p2 : Int32) : (f_X0_place p1 p2 = -1 ∧ (f_X10_in p1.toInt64 0 2 = 0 ∨ f_X10_in p2.toInt64 0 3 = 0)) ∨ (f_X10_in p1.toInt64 0 2 = 1 ∧ f_X10_in p2.toInt64 0 3 = 1 ∧ f_X0_place p1 p2 = 4 * p1 + p2 ∧ ¬ f_X0_place p1 p2 = -1) := by
  rcases in_3 p1 with ⟨a, b⟩ | ⟨a, i, hi, ei⟩
  · refine Or.inl ⟨?_, Or.inl a⟩
    unfold f_X0_place
    rcases out_n (by decide) b with q | q
    · rw [if_pos q]
    · by_cases c : p1 < 0
      · rw [if_pos c]
      · rw [if_neg c]; exact if_pos q
  · rcases in_4 p2 with ⟨a2, b2⟩ | ⟨a2, j, hj, ej⟩
    · refine Or.inl ⟨?_, Or.inr a2⟩
      have c1 : ¬ p1 < 0 := by rw [ei]; exact nI_pos (by omega)
      have c2 : ¬ (3 : Int32) ≤ p1 := by rw [ei]; exact fun z => by have := (nI_leI (a := 3) (by decide) (by omega)).mp z; omega
      unfold f_X0_place
      rw [if_neg c1, if_neg c2]
      rcases out_n (by decide) b2 with q | q
      · rw [if_pos q]
      · by_cases c : p2 < 0
        · rw [if_pos c]
        · rw [if_neg c]; exact if_pos q
    · subst ei ej
      exact Or.inr ⟨a, a2, (place_t i hi j hj).1, (place_t i hi j hj).2⟩
section W2
variable {S : XSh} {σ σ' : XSt} {τ τ' : MSt}
theorem w_book (h : Al S σ τ) (p1 p2 p3 p4 : Int32) : Wr S (f_X9_book S σ p1 p2 p3 p4) (f_X10_book τ p1 p2 p3 p4) := by
  have h0 := h
  obtain ⟨hR, hX, hM⟩ := h
  have e3 : f_X10_in p3.toInt64 0 99 = if 0 ≤ p3 ∧ p3 ≤ 99 then 1 else 0 := f_in_32 p3 0 99
  have e4 : f_X10_in p4.toInt64 p3.toInt64 99 = if p3 ≤ p4 ∧ p4 ≤ 99 then 1 else 0 := f_in_32 p4 p3 99
  unfold f_X9_book f_X10_book
  rw [e3, e4, f_upTo, f_upTo]
  rcases place_or p1 p2 with ⟨a, b⟩ | ⟨a1, a2, a3, a4⟩
  · rw [if_pos a]
    rcases b with b | b
    · rw [if_pos b]; exact Wr.no h0
    · rw [b, if_pos rfl]
      split
      · exact Wr.no h0
      · exact Wr.no h0
  · rw [if_neg a4, a1, a2, if_neg n10, if_neg n10]
    by_cases c : (0 ≤ p3 ∧ p3 ≤ 99) ∧ p3 ≤ p4 ∧ p4 ≤ 99
    · obtain ⟨⟨c1, c2⟩, c3, c4⟩ := c
      rw [if_pos (⟨Int32.le_trans c1 c3, c4⟩ : 0 ≤ p4 ∧ p4 ≤ 99), if_pos (⟨c1, c3⟩ : 0 ≤ p3 ∧ p3 ≤ p4), if_pos (⟨c1, c2⟩ : 0 ≤ p3 ∧ p3 ≤ 99), if_pos (⟨c3, c4⟩ : p3 ≤ p4 ∧ p4 ≤ 99)]
      rw [if_neg n10, if_neg n10, if_neg n10, if_neg n10, f_X0_write, if_neg a4, a3]
      generalize (4 * p1 + p2).toNatClampNeg = i
      have v : Dv τ (ma (ma τ 13 i p3) 14 i p4) := ((Dv.rf τ).ma (by omega)).ma (by omega)
      have x2 (c : Nat) (h1 : c ≠ 20) (h2 : c ≠ 21) : (xa (xa σ 20 0 i p3) 21 0 i p4).2 c = σ.2 c := (xa_c h2).trans (xa_c h1)
      have m2 (j : Nat) (h1 : j ≠ 13) (h2 : j ≠ 14) : (ma (ma τ 13 i p3) 14 i p4).2.2 j = τ.2.2 j := (ma_j h2).trans (ma_j h1)
      refine ⟨rfl, ⟨hR.w.tr rfl rfl (fun j a b => m2 j (by omega) (by omega)), hR.b.tr rfl v rfl (m2 10 (by decide) (by decide)), hR.s.tr rfl (fun c a b => x2 c (by omega) (by omega)) v, hR.d.tr rfl v, ⟨?_, ?_, ?_⟩, hR.i.tr rfl ((xa_2 (by decide)).trans (xa_2 (by decide))) ((xa_2 (by decide)).trans (xa_2 (by decide))) (congrFun (x2 22 (by decide) (by decide)) 1) (x2 31 (by decide) (by decide)) (fun _ _ _ => rfl) (fun j a b => m2 j (by omega) (by omega)), hR.r.tr rfl rfl (x2 32 (by decide) (by decide)) rfl rfl v, hR.t.tr rfl (x2 28 (by decide) (by decide)) rfl (m2 5 (by decide) (by decide)), hR.g.tr rfl v (fun j a b => m2 j (by omega) (by omega)), hR.h.tr rfl (x2 30 (by decide) (by decide)) (fun j a b => m2 j (by omega) (by omega))⟩, (hX.xa (by decide)).xa (by decide), hM⟩
      · rw [xa_2 (by decide), xa_u, ma_j (by decide), ma_k, hR.k.1]
      · rw [xa_u, xa_2 (by decide), ma_k, ma_j (by decide), hR.k.2.1]
      · rw [x2 22 (by decide) (by decide), m2 15 (by decide) (by decide)]; exact hR.k.2.2
    · have cl : ((if (if 0 ≤ p4 ∧ p4 ≤ 99 then (1 : Int32) else 0) = 0 then ((-2 : Int32), σ) else if (if 0 ≤ p3 ∧ p3 ≤ p4 then (1 : Int32) else 0) = 0 then ((-2 : Int32), σ) else ((1 : Int32), f_X0_write S σ 0 p1 p2 p3 p4))) = ((-2 : Int32), σ) := by
        by_cases d : 0 ≤ p4 ∧ p4 ≤ 99
        · rw [if_pos d, if_neg n10]
          by_cases e : 0 ≤ p3 ∧ p3 ≤ p4
          · exact absurd ⟨⟨e.1, Int32.le_trans e.2 d.2⟩, e.2, d.2⟩ c
          · rw [if_neg e, if_pos rfl]
        · rw [if_neg d, if_pos rfl]
      have rf : (if (if 0 ≤ p3 ∧ p3 ≤ 99 then (1 : Int32) else 0) = 0 then ((-2 : Int32), τ) else if (if p3 ≤ p4 ∧ p4 ≤ 99 then (1 : Int32) else 0) = 0 then ((-2 : Int32), τ) else ((1 : Int32), ma (ma τ 13 (Int32.toNatClampNeg (4 * p1 + p2)) p3) 14 (Int32.toNatClampNeg (4 * p1 + p2)) p4)) = ((-2 : Int32), τ) := by
        by_cases d : 0 ≤ p3 ∧ p3 ≤ 99
        · rw [if_pos d, if_neg n10]
          by_cases e : p3 ≤ p4 ∧ p4 ≤ 99
          · exact absurd ⟨d, e⟩ c
          · rw [if_neg e, if_pos rfl]
        · rw [if_neg d, if_pos rfl]
      rw [cl, rf]
      exact Wr.no h0
/-- a sheet's number -/
theorem eq_sheet (p : Int32) : (f_X9_sheetAt S σ p = 0 ∧ f_X10_isSheet p = 0) ∨ (f_X9_sheetAt S σ p = 1 ∧ f_X10_isSheet p = 1 ∧ ∃ s : Nat, s < 4 ∧ p = nI s) := by
  unfold f_X9_sheetAt f_X10_isSheet
  have e : f_X9_isBelow p 4 = f_X10_in p.toInt64 0 3 := (in_bel p 3 3 (by decide) rfl).symm
  rw [e]
  rcases in_4 p with ⟨a, _⟩ | ⟨a, b⟩
  · exact Or.inl ⟨by rw [a]; rfl, a⟩
  · exact Or.inr ⟨by rw [a]; rfl, a, b⟩
/-- a sheet there: its size -/
theorem sheet_n (hR : Rel S σ τ) (hX : XInv S σ) {s : Nat} (hs : s < 4) : ((τ.2.2 56 s = 0 ∧ σ.1 6 s 1 = -1) ∨ (¬ τ.2.2 56 s = 0 ∧ ¬ σ.1 6 s 1 = -1 ∧ σ.1 6 s 1 = τ.2.2 57 s ∧ ∃ z : Nat, z ≤ 40 ∧ σ.1 6 s 2 = nI z ∧ τ.2.2 58 s = nI z ∧ ∀ i, i < z → σ.2 30 s i = τ.2.2 59 (40 * s + i))) := by
  obtain ⟨z, hz, ez⟩ := hX.sh (i := s) hs
  rcases hR.h s hs with a | ⟨a, b, c, d, e⟩
  · exact Or.inl a
  · have e2 : τ.2.2 58 s = nI z := d.symm.trans ez
    rw [e2, nI_clamp (by omega)] at e
    exact Or.inr ⟨a, b, c, z, hz, ez, e2, e⟩
theorem w_cell (h : Al S σ τ) (p1 p2 p3 : Int32) : Wr S (f_X9_cell S σ p1 p2 p3) (f_X10_cell τ p1 p2 p3) := by
  have h0 := h
  obtain ⟨hR, hX, hM⟩ := h
  unfold f_X9_cell f_X10_cell
  rcases eq_sheet (S := S) (σ := σ) p1 with ⟨q1, q2⟩ | ⟨q1, q2, s, hs, rfl⟩
  · rw [if_pos q1, if_pos q2]; exact Wr.no h0
  · rw [q1, q2, if_neg n10, if_neg n10, nI_clamp (show s < 2 ^ 31 by omega)]
    rcases sheet_n hR hX hs with ⟨a, b⟩ | ⟨a, b, c, z, hz, ez, ez2, e⟩
    · rw [if_pos a, if_pos b]; exact Wr.no h0
    · rw [if_neg a, if_neg b, ez, ez2]
      rcases in_n p2 (n := z) (by omega) with ⟨r1, r2⟩ | ⟨r1, i, hi, rfl⟩
      · rw [if_pos r1]
        by_cases k : f_X9_isBelow p2 (nI z) = 0
        · rw [if_pos k]; exact Wr.no h0
        · exact absurd (below_n rfl (by omega) k) r2
      · have eb : f_X9_isBelow (nI i) (nI z) = 1 := by
          rw [f_below, if_pos ⟨nI_pos' (by omega), nI_lt hi (by omega)⟩]
        have ei : (40 : Int32) * nI s + nI i = nI (40 * s + i) := by
          rw [show (40 : Int32) * nI s = nI (40 * s) from pk_mul 40 s, nI_add]
        rw [eb, r1, if_neg n10, if_neg n10, ei, nI_clamp (show 40 * s + i < 2 ^ 31 by omega), nI_clamp (show i < 2 ^ 31 by omega)]
        have ec : (if τ.2.2 57 s = 0 then ((1 : Int32), ma τ 59 (40 * s + i) (Int8.toInt32 (Int32.toInt8 p3))) else if τ.2.2 57 s = 1 then ((1 : Int32), ma τ 59 (40 * s + i) (Int16.toInt32 (Int32.toInt16 p3))) else ((1 : Int32), ma τ 59 (40 * s + i) p3)) = ((1 : Int32), ma τ 59 (40 * s + i) (f_X6_cut S σ s p3)) := by
          unfold f_X6_cut
          rw [c]
          by_cases k0 : τ.2.2 57 s = 0
          · rw [if_pos k0, if_pos k0]
          · rw [if_neg k0, if_neg k0]
            by_cases k1 : τ.2.2 57 s = 1
            · rw [if_pos k1, if_pos k1]
            · rw [if_neg k1, if_neg k1]
        rw [ec]
        generalize f_X6_cut S σ s p3 = x
        have v : Dv τ (ma τ 59 (40 * s + i) x) := (Dv.rf τ).ma (by omega)
        refine ⟨rfl, ⟨hR.w.tr rfl rfl (fun j a b => ma_j (by omega)), hR.b.tr rfl v rfl (ma_j (by decide)), hR.s.tr rfl (fun c a b => xa_c (by omega)) v, hR.d.tr rfl v, hR.k.tr (fun c a b => xa_c (by omega)) (fun j a b => ma_j (by omega)), hR.i.tr rfl (xa_2 (by omega)) (xa_2 (by omega)) (xa_2 (by omega)) (xa_c (by decide)) (fun _ _ _ => rfl) (fun j a b => ma_j (by omega)), hR.r.tr rfl rfl (xa_c (by decide)) rfl rfl v, hR.t.tr rfl (xa_c (by decide)) rfl (ma_j (by decide)), hR.g.tr rfl v (fun j a b => ma_j (by omega)), fun t ht => ?_⟩, hX.xa (by decide), hM⟩
        rw [ma_j (by decide), ma_j (by decide), ma_j (by decide)]
        rcases sheet_n hR hX ht with ⟨a', b'⟩ | ⟨a', b', c', z', hz', ez', ez2', e'⟩
        · exact Or.inl ⟨a', b'⟩
        · refine Or.inr ⟨a', b', c', ez'.trans ez2'.symm, fun k hk => ?_⟩
          rw [ez2', nI_clamp (by omega)] at hk
          rw [ma_k]
          by_cases q : t = s ∧ k = i
          · rw [q.1, q.2, upd_at, xa_at]
          · rw [upd_ne (by omega)]
            refine Eq.trans ?_ (e' k hk)
            show up3 σ.2 30 s i x 30 t k = _
            unfold up3
            rw [if_neg (fun w => q ⟨w.2.1, w.2.2⟩)]
end W2
