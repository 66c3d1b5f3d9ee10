/-- alike in labels, bottles and texts -/
def Dw (τ τ' : MSt) : Prop := ∀ j, (j ≤ 2 ∨ j = 10 ∨ (16 ≤ j ∧ j ≤ 19)) → τ'.2.2 j = τ.2.2 j
section DW
variable {τ τ' : MSt}
theorem dw_shows (h : Dw τ τ') (b p : Int32) : f_X10_showsOf τ' b p = f_X10_showsOf τ b p := by
  unfold f_X10_showsOf
  rw [h 16 (by omega), h 10 (by omega), h 17 (by omega), h 19 (by omega)]
theorem dw_within (h : Dw τ τ') (a : Int32) : f_X10_withinOf τ' a = f_X10_withinOf τ a := by unfold f_X10_withinOf; rw [h 16 (by omega), h 17 (by omega), h 18 (by omega)]
theorem dw_tongueL (h : Dw τ τ') (hg : ∀ j, 42 ≤ j → j ≤ 45 → τ'.2.2 j = τ.2.2 j) : ∀ (n : Nat) (a b c d e f k : Int32), f_X10_tongue_L39 n τ' a b c d e f k = f_X10_tongue_L39 n τ a b c d e f k
  | 0, _, _, _, _, _, _, _ => rfl
  | n + 1, a, b, c, d, e, f, k => by rw [f_X10_tongue_L39, f_X10_tongue_L39]; simp only [hg 42 (by decide) (by decide), hg 43 (by decide) (by decide), hg 44 (by decide) (by decide), hg 45 (by decide) (by decide), h 17 (by omega), dw_within h, dw_tongueL h hg n]
theorem dw_tongue (h : Dw τ τ') (hg : ∀ j, 42 ≤ j → j ≤ 45 → τ'.2.2 j = τ.2.2 j) (a b : Int32) : f_X10_tongue τ' a b = f_X10_tongue τ a b := by unfold f_X10_tongue; rw [dw_tongueL h hg]
theorem dw_txt (h : Dw τ τ') (x : Nat) : txt τ' x = txt τ x := by unfold txt; rw [h 1 (by omega), h 2 (by omega)]
end DW
section W7
variable {S : XSh} {σ σ' : XSt} {τ τ' : MSt}
theorem RelR.tw (h : RelR S σ τ) (e : σ'.1 9 0 6 = σ.1 9 0 6) (e5 : σ'.1 5 = σ.1 5) (a : σ'.2 32 = σ.2 32) (n3 : τ'.1 3 = τ.1 3) (n4 : τ'.1 4 = τ.1 4) (v : Dw τ τ') : RelR S σ' τ' := by
  unfold RelR at h ⊢
  rw [e, e5, a, n3, n4]
  refine ⟨h.1, h.2.1, h.2.2.1, fun i hi => ?_⟩
  rw [dw_txt v]
  exact h.2.2.2 i hi
theorem RelG.tw (h : RelG S σ τ) (e : σ'.1 7 = σ.1 7) (v : Dw τ τ') (hg : ∀ j, 42 ≤ j → j ≤ 45 → τ'.2.2 j = τ.2.2 j) : RelG S σ' τ' := by
  unfold RelG at h ⊢
  intro t ht
  rw [e, hg 42 (by decide) (by decide), hg 43 (by decide) (by decide), dw_tongue v hg, dw_tongue v hg, dw_tongue v hg, dw_tongue v hg]
  exact h t ht
theorem RelB.tw (h : RelB S σ τ) (e : ∀ b k, b < S 0 1 → k < 4 → σ'.1 1 b k = σ.1 1 b k) (v : Dw τ τ') (n : τ'.1 20 = τ.1 20) : RelB S σ' τ' := by
  unfold RelB at h ⊢
  rw [n, v 16 (by omega), v 17 (by omega), v 18 (by omega)]
  refine ⟨h.1, fun b hb => ?_⟩
  rw [e b 0 hb (by decide), e b 3 hb (by decide)]
  refine ⟨(h.2 b hb).1, (h.2 b hb).2.1, (h.2 b hb).2.2.1, fun p hp => ?_⟩
  rw [dw_shows v]
  exact (h.2 b hb).2.2.2 p hp
/-- a sale more: both alike -/
theorem sale_rel (h : Al S σ τ) {i s : Nat} (hi : i < S 0 1) (es : τ.1 26 = nI s) (hs : s < 40) {hd p y : Int32} (hsl : ∃ k : Nat, k < 10 ∧ hd / 10 = nI k) (hby : ∃ k : Nat, k < 10 ∧ hd - hd / 10 * 10 = nI k) (hne : ¬ hd / 10 = hd - hd / 10 * 10) (hp : ∃ k : Nat, k ≤ 9999 ∧ p = nI k) : Rel S (f_X1_passOn S (f_X3_write S σ (nI i) hd p y).2 i (hd / 10) (hd - hd / 10 * 10) y) (saleSt τ (nI i) hd p y) := by
  obtain ⟨hR, hX, hM⟩ := h
  have h24 := hX.nb.2
  have e5 : σ.1 3 0 5 = nI s := hR.s.1.symm.trans es
  have l40 : nI s < 40 := nI_lt (b := 40) hs (by decide)
  have ew : (f_X3_write S σ (nI i) hd p y).2 = xp (xa (xa (xa (xa (xa σ 23 0 s (nI i)) 24 0 s (hd / 10)) 25 0 s (hd - hd / 10 * 10)) 26 0 s p) 27 0 s y) 3 0 5 (nI (s + 1)) := by
    unfold f_X3_write
    rw [e5, if_pos l40, nI_clamp (show s < 2 ^ 31 by omega), nI_1]
  have t1 (j : Nat) (hj : j ≠ 26) : (saleSt τ (nI i) hd p y).1 j = τ.1 j := upd_ne hj
  have t26 : (saleSt τ (nI i) hd p y).1 26 = nI (s + 1) := by
    show upd τ.1 26 (τ.1 26 + 1) 26 = _
    rw [upd_at, es, nI_1]
  have c26 : (τ.1 26).toNatClampNeg = s := by rw [es, nI_clamp (by omega)]
  have t2 (j : Nat) (hj : ¬ (21 ≤ j ∧ j ≤ 25)) : (saleSt τ (nI i) hd p y).2.2 j = τ.2.2 j := by
    unfold saleSt
    dsimp only
    rw [if_neg (by omega), if_neg (by omega), if_neg (by omega), if_neg (by omega), if_neg (by omega)]
  have t21 : (saleSt τ (nI i) hd p y).2.2 21 = upd (τ.2.2 21) s (nI i) := by
    unfold saleSt
    dsimp only
    rw [if_neg (by omega), if_neg (by omega), if_neg (by omega), if_neg (by omega), if_pos rfl, c26]
  have t22 : (saleSt τ (nI i) hd p y).2.2 22 = upd (τ.2.2 22) s (hd / 10) := by
    unfold saleSt
    dsimp only
    rw [if_neg (by omega), if_neg (by omega), if_neg (by omega), if_pos rfl, c26]
  have t23 : (saleSt τ (nI i) hd p y).2.2 23 = upd (τ.2.2 23) s (hd - hd / 10 * 10) := by
    unfold saleSt
    dsimp only
    rw [if_neg (by omega), if_neg (by omega), if_pos rfl, c26]
  have t24 : (saleSt τ (nI i) hd p y).2.2 24 = upd (τ.2.2 24) s p := by
    unfold saleSt
    dsimp only
    rw [if_neg (by omega), if_pos rfl, c26]
  have t25 : (saleSt τ (nI i) hd p y).2.2 25 = upd (τ.2.2 25) s y := by
    unfold saleSt
    dsimp only
    rw [if_pos rfl, c26]
  rw [ew]
  generalize saleSt τ (nI i) hd p y = τ1 at t1 t26 t2 t21 t22 t23 t24 t25
  generalize hd / 10 = sl at *
  generalize hd - sl * 10 = by' at *
  have w1 (c : Nat) (hc : c ≠ 3) : (xp (xa (xa (xa (xa (xa σ 23 0 s (nI i)) 24 0 s sl) 25 0 s by') 26 0 s p) 27 0 s y) 3 0 5 (nI (s + 1))).1 c = σ.1 c := (xp_c hc).trans rfl
  have w3 : (xp (xa (xa (xa (xa (xa σ 23 0 s (nI i)) 24 0 s sl) 25 0 s by') 26 0 s p) 27 0 s y) 3 0 5 (nI (s + 1))).1 3 0 5 = nI (s + 1) := xp_s _ _ _ _ _
  have w2 (c : Nat) (hc : ¬ (23 ≤ c ∧ c ≤ 27)) : (xp (xa (xa (xa (xa (xa σ 23 0 s (nI i)) 24 0 s sl) 25 0 s by') 26 0 s p) 27 0 s y) 3 0 5 (nI (s + 1))).2 c = σ.2 c := ((((xa_c (by omega)).trans (xa_c (by omega))).trans (xa_c (by omega))).trans (xa_c (by omega))).trans (xa_c (by omega))
  have w23 : (xp (xa (xa (xa (xa (xa σ 23 0 s (nI i)) 24 0 s sl) 25 0 s by') 26 0 s p) 27 0 s y) 3 0 5 (nI (s + 1))).2 23 0 = upd (σ.2 23 0) s (nI i) := by
    show (xa (xa (xa (xa (xa σ 23 0 s (nI i)) 24 0 s sl) 25 0 s by') 26 0 s p) 27 0 s y).2 23 0 = _
    rw [xa_2 (by decide), xa_2 (by decide), xa_2 (by decide), xa_2 (by decide), xa_u]
  have w24 : (xp (xa (xa (xa (xa (xa σ 23 0 s (nI i)) 24 0 s sl) 25 0 s by') 26 0 s p) 27 0 s y) 3 0 5 (nI (s + 1))).2 24 0 = upd (σ.2 24 0) s sl := by
    show (xa (xa (xa (xa (xa σ 23 0 s (nI i)) 24 0 s sl) 25 0 s by') 26 0 s p) 27 0 s y).2 24 0 = _
    rw [xa_2 (by decide), xa_2 (by decide), xa_2 (by decide), xa_u, xa_2 (by decide)]
  have w25 : (xp (xa (xa (xa (xa (xa σ 23 0 s (nI i)) 24 0 s sl) 25 0 s by') 26 0 s p) 27 0 s y) 3 0 5 (nI (s + 1))).2 25 0 = upd (σ.2 25 0) s by' := by
    show (xa (xa (xa (xa (xa σ 23 0 s (nI i)) 24 0 s sl) 25 0 s by') 26 0 s p) 27 0 s y).2 25 0 = _
    rw [xa_2 (by decide), xa_2 (by decide), xa_u, xa_2 (by decide), xa_2 (by decide)]
  have w26 : (xp (xa (xa (xa (xa (xa σ 23 0 s (nI i)) 24 0 s sl) 25 0 s by') 26 0 s p) 27 0 s y) 3 0 5 (nI (s + 1))).2 26 0 = upd (σ.2 26 0) s p := by
    show (xa (xa (xa (xa (xa σ 23 0 s (nI i)) 24 0 s sl) 25 0 s by') 26 0 s p) 27 0 s y).2 26 0 = _
    rw [xa_2 (by decide), xa_u, xa_2 (by decide), xa_2 (by decide), xa_2 (by decide)]
  have w27 : (xp (xa (xa (xa (xa (xa σ 23 0 s (nI i)) 24 0 s sl) 25 0 s by') 26 0 s p) 27 0 s y) 3 0 5 (nI (s + 1))).2 27 0 = upd (σ.2 27 0) s y := by
    show (xa (xa (xa (xa (xa σ 23 0 s (nI i)) 24 0 s sl) 25 0 s by') 26 0 s p) 27 0 s y).2 27 0 = _
    rw [xa_u, xa_2 (by decide), xa_2 (by decide), xa_2 (by decide), xa_2 (by decide)]
  generalize xp (xa (xa (xa (xa (xa σ 23 0 s (nI i)) 24 0 s sl) 25 0 s by') 26 0 s p) 27 0 s y) 3 0 5 (nI (s + 1)) = σ1 at w1 w2 w3 w23 w24 w25 w26 w27
  obtain ⟨x1, x2, x3, x4, y4, y5, y8, y6, y7⟩ := pass_is S σ1 i sl by' y
  generalize f_X1_passOn S σ1 i sl by' y = σ2 at x1 x2 x3 x4 y4 y5 y8 y6 y7
  have v : Dw τ τ1 := fun j hj => t2 j (by omega)
  have z1 (c : Nat) (h1 : c ≠ 1) (h3 : c ≠ 3) : σ2.1 c = σ.1 c := (x1 c h1).trans (w1 c h3)
  have z2 (c : Nat) (hc : ¬ (23 ≤ c ∧ c ≤ 27)) : σ2.2 c = σ.2 c := by rw [x2]; exact w2 c hc
  refine ⟨hR.w.tr (z1 8 (by decide) (by decide)) (t1 12 (by decide)) (fun j a b => t2 j (by omega)), hR.b.tw (fun b k hb hk => ?_) v (t1 20 (by decide)), ⟨?_, ?_, ?_, ?_, ?_, ?_, fun j hj => ?_⟩, fun b hb => ?_, hR.k.tr (fun c a b => z2 c (by omega)) (fun j a b => t2 j (by omega)), hR.i.tr (z1 2 (by decide) (by decide)) (by rw [z2 20 (by omega)]) (by rw [z2 21 (by omega)]) (by rw [z2 22 (by omega)]) (z2 31 (by omega)) (fun j a b => t1 j (by omega)) (fun j a b => t2 j (by omega)), hR.r.tw (by rw [z1 9 (by decide) (by decide)]) (z1 5 (by decide) (by decide)) (z2 32 (by omega)) (t1 3 (by decide)) (t1 4 (by decide)) v, hR.t.tr (by rw [z1 4 (by decide) (by decide)]) (z2 28 (by omega)) (t1 6 (by decide)) (t2 5 (by omega)), hR.g.tw (z1 7 (by decide) (by decide)) v (fun j a b => t2 j (by omega)), hR.h.tr (z1 6 (by decide) (by decide)) (z2 30 (by omega)) (fun j a b => t2 j (by omega))⟩
  · by_cases q : b = i
    · rw [q, x4 k hk, w1 1 (by decide)]
    · rw [x3 b k q, w1 1 (by decide)]
  · rw [x1 3 (by decide), w3, t26]
  · rw [x2, w23, t21, hR.s.2.1]
  · rw [x2, w24, t22, hR.s.2.2.1]
  · rw [x2, w25, t23, hR.s.2.2.2.1]
  · rw [x2, w26, t24, hR.s.2.2.2.2.1]
  · rw [x2, w27, t25, hR.s.2.2.2.2.2.1]
  · rw [t26, nI_clamp (by omega)] at hj
    rw [t22, t23, t24]
    by_cases q : j = s
    · rw [q, upd_at, upd_at, upd_at]; exact ⟨hby, hsl, hne, hp⟩
    · rw [upd_ne q, upd_ne q, upd_ne q]
      exact hR.s.2.2.2.2.2.2 j (by rw [c26]; omega)
  · obtain ⟨d5, d6, d7, d8, dc, di, k4, hk4, e4⟩ := hR.d b hb
    rw [c26] at hk4
    have s1 : s + 1 ≤ 40 := by omega
    rw [ow_is s1 t26, gp_is s1 t26, ch_is s1 t26, ly_is s1 t26, t21, t22, t23, t25, t26]
    rw [ow_is (show s ≤ 40 by omega) es] at d5 di
    rw [gp_is (show s ≤ 40 by omega) es] at d6
    rw [ch_is (show s ≤ 40 by omega) es] at d7
    rw [ly_is (show s ≤ 40 by omega) es] at d8
    have below : ∀ j, j < s → upd (τ.2.2 21) s (nI i) j = τ.2.2 21 j ∧ upd (τ.2.2 22) s sl j = τ.2.2 22 j ∧ upd (τ.2.2 23) s by' j = τ.2.2 23 j := fun j hj => ⟨upd_ne (by omega), upd_ne (by omega), upd_ne (by omega)⟩
    have gl := lastN_cg (sb := τ.2.2 21) (sb' := upd (τ.2.2 21) s (nI i)) (nI b) s (fun j hj => (below j hj).1)
    have gg := gpN_cg (nI b) s below
    have gc := chN_cg (nI b) s below
    by_cases q : b = i
    · subst q
      rw [gpN, chN, owN, lyN, lastN, upd_at, if_pos rfl, if_pos rfl, if_pos rfl, gl, gg, gc]
      dsimp only
      rw [upd_at, upd_at, y4, y5, y8, y6, y7, w1 1 (by decide), d6, d7, e4, nI_1]
      have neg1 : ¬ by' = -1 := by
        obtain ⟨k, hk, rfl⟩ := hby
        exact nI_m1 (by omega)
      have n0 : ¬ nI (k4 + 1) = 0 := fun z => by
        have := congrArg Int32.toNatClampNeg z
        rw [nI_clamp (by omega)] at this
        exact absurd this (by show ¬ k4 + 1 = 0; omega)
      refine ⟨rfl, ?_, ?_, (upd_at _ _ _).symm, ⟨k4 + 1, by omega, rfl⟩, ⟨fun z => absurd z n0, fun z => absurd z neg1⟩, ⟨k4 + 1, by rw [nI_clamp (by omega)]; omega, rfl⟩⟩
      · unfold owN at d5 di
        cases hl : lastN (τ.2.2 21) (nI b) s with
        | none =>
          rw [hl] at di
          have z : nI k4 = 0 := e4.symm.trans (di.mpr rfl)
          rw [z, if_pos (Int32.le_refl _)]
          exact (Int32.add_zero _).symm
        | some j =>
          rw [hl] at di d5
          have jk := (lastN_lt hl).1
          obtain ⟨k, hk, ek⟩ := (hR.s.2.2.2.2.2.2 j (by rw [c26]; omega)).1
          have z : ¬ nI k4 ≤ 0 := fun z => by
            have z0 : k4 = 0 := by have := (nI_leI (b := 0) (by omega) (by decide)).mp z; omega
            have z1 := di.mp (by rw [e4, z0]; rfl)
            exact nI_m1 (show k < 1000000 by omega) (ek.symm.trans z1)
          have d5' : σ.1 1 b 5 = τ.2.2 23 j := d5
          have u := (below j jk).2.2
          dsimp only
          rw [if_neg z, d5', u]
          by_cases w : sl = τ.2.2 23 j
          · rw [if_pos w, if_pos w.symm, Int32.add_zero]
          · rw [if_neg w, if_neg (fun z => w z.symm)]
      · unfold owN at d5 di
        cases hl : lastN (τ.2.2 21) (nI b) s with
        | none =>
          rw [hl] at di
          have z : nI k4 = 0 := e4.symm.trans (di.mpr rfl)
          rw [z, if_pos (Int32.le_refl _)]
        | some j =>
          rw [hl] at di d5
          have jk := (lastN_lt hl).1
          obtain ⟨k, hk, ek⟩ := (hR.s.2.2.2.2.2.2 j (by rw [c26]; omega)).1
          have z : ¬ nI k4 ≤ 0 := fun z => by
            have z0 : k4 = 0 := by have := (nI_leI (b := 0) (by omega) (by decide)).mp z; omega
            have z1 := di.mp (by rw [e4, z0]; rfl)
            exact nI_m1 (show k < 1000000 by omega) (ek.symm.trans z1)
          have d5' : σ.1 1 b 5 = τ.2.2 23 j := d5
          have u := (below j jk).2.2
          dsimp only
          rw [if_neg z, d5', u]
          by_cases w : sl = τ.2.2 23 j
          · rw [if_pos w, if_pos w.symm]
          · rw [if_neg w, if_neg (fun z => w z.symm)]
    · have nb : ¬ nI i = nI b := fun z => q (by
        have := congrArg Int32.toNatClampNeg z
        rw [nI_clamp (by omega), nI_clamp (by omega)] at this
        exact this.symm)
      rw [gpN, chN, owN, lyN, lastN, upd_at, if_neg nb, if_neg nb, if_neg nb, gl, gg, gc, Int32.add_zero]
      have lo : ∀ j, lastN (τ.2.2 21) (nI b) s = some j → j ≠ s := fun j hl => by have := (lastN_lt hl).1; omega
      have o1 : (match lastN (τ.2.2 21) (nI b) s with | none => (-1 : Int32) | some j => upd (τ.2.2 23) s by' j) = owN (τ.2.2 21) (τ.2.2 23) (nI b) s := by
        unfold owN
        cases hl : lastN (τ.2.2 21) (nI b) s with
        | none => rfl
        | some j => exact upd_ne (lo j hl)
      have o2 : (match lastN (τ.2.2 21) (nI b) s with | none => (0 : Int32) | some j => upd (τ.2.2 25) s y j) = lyN (τ.2.2 21) (τ.2.2 25) (nI b) s := by
        unfold lyN
        cases hl : lastN (τ.2.2 21) (nI b) s with
        | none => rfl
        | some j => exact upd_ne (lo j hl)
      rw [x3 b 4 q, x3 b 5 q, x3 b 6 q, x3 b 7 q, x3 b 8 q, w1 1 (by decide)]
      refine ⟨d5.trans o1.symm, d6, d7, d8.trans o2.symm, dc, ?_, ⟨k4, by rw [nI_clamp (by omega)]; omega, e4⟩⟩
      exact di.trans (by rw [← o1]; exact Iff.rfl)
theorem hd_n {p2 : Int32} (c : ¬ f_X9_isUpTo p2 99 = 0) : (∃ k : Nat, k < 10 ∧ p2 / 10 = nI k) ∧ ∃ k : Nat, k < 10 ∧ p2 - p2 / 10 * 10 = nI k := by
  obtain ⟨k, hk, rfl⟩ := up_n (N := 99) rfl (by decide) c
  have d1 : nI k / 10 = nI (k / 10) := pk_div (d := 10) (by omega) (by decide) (by decide)
  have r1 : nI k - nI k / 10 * 10 = nI (k % 10) := pk_rem (d := 10) (by omega) (by decide) (by decide)
  exact ⟨⟨k / 10, by omega, d1⟩, ⟨k % 10, by omega, r1⟩⟩
theorem w_sale (h : Al S σ τ) (p1 p2 p3 p4 : Int32) : Wr S (f_X9_sale S σ p1 p2 p3 p4) (f_X10_sale τ p1 p2 p3 p4) := by
  have h0 := h
  obtain ⟨hR, hX, hM⟩ := h
  have hX' := hX.sale (b := p1) (hd := p2) (p := p3) (y := p4)
  have hM' := hM.sale p1 p2 p3 p4
  have h24 := hX.nb.2
  obtain ⟨s, hs, es⟩ := hM.ns
  have e5 : σ.1 3 0 5 = nI s := hR.s.1.symm.trans es
  unfold f_X9_sale at hX' ⊢
  unfold f_X10_sale at hM' ⊢
  rw [in_up p2 99 99 rfl, in_up p3 9999 9999 rfl, in_up p4 99 99 rfl] at hM' ⊢
  rcases eq_bottle hR hX p1 with ⟨q1, q2⟩ | ⟨q1, q2, b, hb, rfl⟩
  · rw [if_pos q1, if_pos q2]; exact Wr.no h0
  · rw [q1, if_neg n10] at hX' ⊢
    rw [q2, if_neg n10] at hM' ⊢
    by_cases c1 : f_X9_isUpTo p2 99 = 0
    · rw [if_pos c1, if_pos c1]; exact Wr.no h0
    · rw [if_neg c1] at hX' hM' ⊢
      rw [if_neg c1]
      by_cases c2 : p2 / 10 = p2 - p2 / 10 * 10
      · rw [if_pos c2, if_pos c2]; exact Wr.no h0
      · rw [if_neg c2] at hX' hM' ⊢
        rw [if_neg c2]
        by_cases c3 : f_X9_isUpTo p3 9999 = 0
        · rw [if_pos c3, if_pos c3]; exact Wr.no h0
        · rw [if_neg c3] at hX' hM' ⊢
          rw [if_neg c3]
          by_cases c4 : f_X9_isUpTo p4 99 = 0
          · rw [if_pos c4, if_pos c4]; exact Wr.no h0
          · rw [if_neg c4] at hX' hM' ⊢
            rw [if_neg c4]
            obtain ⟨k4, hk4, e4⟩ := up_n (N := 99) rfl (by decide) c4
            have hly := (hR.d b hb).2.2.2.1
            rw [nI_clamp (show b < 2 ^ 31 by omega)] at hX' ⊢
            rw [hly, e5] at hX' ⊢
            have c40 : (nI s < 40 ∧ ¬ nI s = 40) ∨ (¬ nI s < 40 ∧ nI s = 40) := by
              by_cases q : s = 40
              · subst q; exact Or.inr ⟨by decide, rfl⟩
              · exact Or.inl ⟨nI_lt (b := 40) (by omega) (by decide), fun z => q (by
                  have := congrArg Int32.toNatClampNeg z
                  rw [nI_clamp (by omega)] at this
                  exact this)⟩
            have fin (hs40 : nI s < 40) (hn : ¬ nI s = 40) (hx : XInv S (f_X1_passOn S (f_X3_write S σ (nI b) p2 p3 p4).2 b (p2 / 10) (p2 - p2 / 10 * 10) p4)) (hm : MInv (saleSt τ (nI b) p2 p3 p4)) : Wr S ((f_X3_write S σ (nI b) p2 p3 p4).1, f_X1_passOn S (f_X3_write S σ (nI b) p2 p3 p4).2 b (p2 / 10) (p2 - p2 / 10 * 10) p4) (τ.1 26 + 1 - 1, saleSt τ (nI b) p2 p3 p4) := by
              have s40 : s < 40 := (nI_ltI (b := 40) (by omega) (by decide)).mp hs40
              refine ⟨?_, sale_rel h0 hb es s40 (hd_n c1).1 (hd_n c1).2 c2 (up_n (N := 9999) rfl (by decide) c3), hx, hm⟩
              show (f_X3_write S σ (nI b) p2 p3 p4).1 = τ.1 26 + 1 - 1
              unfold f_X3_write
              rw [e5, if_pos hs40, es]
            by_cases cl : f_X10_lastOf τ (nI b) (τ.1 26) = -1
            · have l0 : lastY τ b ≤ p4 := by
                unfold lastY
                rw [if_pos cl, e4]
                exact nI_pos' (by omega)
              rw [if_pos l0] at hX' ⊢
              rw [if_pos cl, es] at hM' ⊢
              rcases c40 with ⟨a1, a2⟩ | ⟨a1, a2⟩
              · rw [if_pos a1] at hX' ⊢
                rw [if_neg a2] at hM' ⊢
                rw [← es] at hM' ⊢
                exact fin a1 a2 hX' hM'
              · rw [if_neg a1, if_pos a2]; exact Wr.no h0
            · have ely : lastY τ b = τ.2.2 25 (f_X10_lastOf τ (nI b) (τ.1 26)).toNatClampNeg := by
                unfold lastY
                rw [if_neg cl]
              rw [ely] at hX' ⊢
              rw [if_neg cl] at hM' ⊢
              by_cases cy : τ.2.2 25 (f_X10_lastOf τ (nI b) (τ.1 26)).toNatClampNeg ≤ p4
              · rw [if_pos cy] at hX' hM' ⊢
                rw [if_pos cy]
                rcases c40 with ⟨a1, a2⟩ | ⟨a1, a2⟩
                · rw [if_pos a1] at hX' ⊢
                  have a2' : ¬ τ.1 26 = 40 := by rw [es]; exact a2
                  rw [if_neg a2'] at hM' ⊢
                  exact fin a1 a2 hX' hM'
                · have a2' : τ.1 26 = 40 := by rw [es]; exact a2
                  rw [if_neg a1, if_pos a2']; exact Wr.no h0
              · rw [if_neg cy, if_neg cy]; exact Wr.no h0
end W7
