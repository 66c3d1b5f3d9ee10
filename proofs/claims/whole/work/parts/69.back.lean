/-! what bottles know, made anew sale by sale -/
def PD (S : XSh) (σ : XSt) (sb ss sy ye : Nat → Int32) (k : Nat) : Prop := ∀ b, b < S 0 1 → σ.1 1 b 5 = owN sb sy (nI b) k ∧ σ.1 1 b 6 = gpN sb ss sy (nI b) k ∧ σ.1 1 b 7 = chN sb ss sy (nI b) k ∧ σ.1 1 b 8 = lyN sb ye (nI b) k ∧ (σ.1 1 b 4 = 0 ↔ owN sb sy (nI b) k = -1) ∧ ∃ c : Nat, c ≤ k ∧ σ.1 1 b 4 = nI c
theorem PD.step {S : XSh} {σ : XSt} {sb ss sy ye : Nat → Int32} {k i : Nat} (h : PD S σ sb ss sy ye k) (hk : k < 40) (hs : S 0 1 ≤ 24) (hi : i < S 0 1) (e : sb k = nI i) (hy : ∀ j, j ≤ k → ∃ q : Nat, q < 10 ∧ sy j = nI q) : PD S (f_X1_passOn S σ i (ss k) (sy k) (ye k)) sb ss sy ye (k + 1) := by
  obtain ⟨x1, x2, x3, x4, y4, y5, y8, y6, y7⟩ := pass_is S σ i (ss k) (sy k) (ye k)
  generalize f_X1_passOn S σ i (ss k) (sy k) (ye k) = σ2 at x1 x2 x3 x4 y4 y5 y8 y6 y7
  intro b hb
  obtain ⟨d5, d6, d7, d8, di, c, hc, ec⟩ := h b hb
  by_cases q : b = i
  · subst q
    have neg1 : ∀ j, j ≤ k → ¬ sy j = -1 := fun j hj z => by
      obtain ⟨q, hq, eq⟩ := hy j hj
      exact nI_m1 (show q < 1000000 by omega) (eq.symm.trans z)
    have n0 : ¬ nI (c + 1) = 0 := fun z => by
      have := congrArg Int32.toNatClampNeg z
      rw [nI_clamp (by omega)] at this
      exact absurd this (by show ¬ c + 1 = 0; omega)
    rw [gpN, chN, owN, lyN, lastN, e, if_pos rfl, if_pos rfl, if_pos rfl]
    dsimp only
    rw [y4, y5, y8, y6, y7, d6, d7, ec, nI_1]
    refine ⟨rfl, ?_, ?_, rfl, ⟨fun z => absurd z n0, fun z => absurd z (neg1 k (Nat.le_refl _))⟩, ⟨c + 1, by omega, rfl⟩⟩
    · unfold owN at d5 di
      cases hl : lastN sb (nI b) k with
      | none =>
        rw [hl] at di
        have z : nI c = 0 := ec.symm.trans (di.mpr rfl)
        rw [z, if_pos (Int32.le_refl _)]
        exact (Int32.add_zero _).symm
      | some j =>
        rw [hl] at di d5
        have jk := (lastN_lt hl).1
        have z : ¬ nI c ≤ 0 := fun z => by
          have z0 : c = 0 := by have := (nI_leI (b := 0) (by omega) (by decide)).mp z; omega
          exact neg1 j (by omega) (di.mp (by rw [ec, z0]; rfl))
        have d5' : σ.1 1 b 5 = sy j := d5
        dsimp only
        rw [if_neg z, d5']
        by_cases w : ss k = sy j
        · rw [if_pos w, if_pos w.symm, Int32.add_zero]
        · rw [if_neg w, if_neg (fun z => w z.symm)]
    · unfold owN at d5 di
      cases hl : lastN sb (nI b) k with
      | none =>
        rw [hl] at di
        have z : nI c = 0 := ec.symm.trans (di.mpr rfl)
        rw [z, if_pos (Int32.le_refl _)]
      | some j =>
        rw [hl] at di d5
        have jk := (lastN_lt hl).1
        have z : ¬ nI c ≤ 0 := fun z => by
          have z0 : c = 0 := by have := (nI_leI (b := 0) (by omega) (by decide)).mp z; omega
          exact neg1 j (by omega) (di.mp (by rw [ec, z0]; rfl))
        have d5' : σ.1 1 b 5 = sy j := d5
        dsimp only
        rw [if_neg z, d5']
        by_cases w : ss k = sy j
        · rw [if_pos w, if_pos w.symm]
        · rw [if_neg w, if_neg (fun z => w z.symm)]
  · have nb : ¬ sb k = nI b := fun z => q (by
      have := congrArg Int32.toNatClampNeg (e.symm.trans z)
      rw [nI_clamp (by omega), nI_clamp (by omega)] at this
      exact this.symm)
    rw [gpN, chN, owN, lyN, lastN, if_neg nb, if_neg nb, if_neg nb, Int32.add_zero]
    rw [x3 b 4 q, x3 b 5 q, x3 b 6 q, x3 b 7 q, x3 b 8 q]
    exact ⟨d5, d6, d7, d8, di, c, by omega, ec⟩
/-- with no sale at all -/
theorem PD.zero {S : XSh} {σ : XSt} (sb ss sy ye : Nat → Int32) (h : ∀ b, b < S 0 1 → σ.1 1 b 4 = 0 ∧ σ.1 1 b 5 = -1 ∧ σ.1 1 b 6 = 0 ∧ σ.1 1 b 7 = 0 ∧ σ.1 1 b 8 = 0) : PD S σ sb ss sy ye 0 := fun b hb => by
  obtain ⟨a4, a5, a6, a7, a8⟩ := h b hb
  exact ⟨a5, a6, a7, a8, ⟨fun _ => rfl, fun _ => a4⟩, 0, Nat.le_refl _, a4⟩
