/-- the last place ahead of k where b stands -/
def lastN (sb : Nat → Int32) (b : Int32) : Nat → Option Nat
  | 0 => none
  | k + 1 => if sb k = b then some k else lastN sb b k
def oI : Option Nat → Int32
  | none => -1
  | some j => nI j
theorem lastN_lt {sb : Nat → Int32} {b : Int32} : ∀ {k j : Nat}, lastN sb b k = some j → j < k ∧ sb j = b
  | 0, j, h => by cases h
  | k + 1, j, h => by
    unfold lastN at h
    split at h
    · next q => cases h; exact ⟨Nat.lt_succ_self k, q⟩
    · have := lastN_lt h; exact ⟨by omega, this.2⟩
theorem lastL (σ : MSt) (b a : Int32) : ∀ (fuel k : Nat), k < fuel → k < 1000 → f_X10_lastOf_L4 fuel σ b a (nI k - 1) = oI (lastN (σ.2.2 21) b k) := by
  intro fuel
  induction fuel with
  | zero => intro k h; omega
  | succ n ih =>
    intro k h1 h2
    cases k with
    | zero => rfl
    | succ j =>
      rw [f_X10_lastOf_L4, nI_pred, if_neg (nI_pos (by omega)), nI_clamp (by omega), lastN]
      split
      · rfl
      · rw [show nI j + (-1 : Int32) = nI j - 1 from (Int32.sub_eq_add_neg _ _).symm]
        exact ih j (by omega) (by omega)
theorem f_last (σ : MSt) (b : Int32) {k : Nat} (hk : k ≤ 40) : f_X10_lastOf σ b (nI k) = oI (lastN (σ.2.2 21) b k) := by
  unfold f_X10_lastOf
  exact lastL σ b (nI k) 41 k (by omega) (by omega)
theorem last_in {σ : MSt} {b a : Int32} (ha : Ct a 40) (c : ¬ f_X10_lastOf σ b a = -1) : vp_in (f_X10_lastOf σ b a) 40 := by
  obtain ⟨k, hk, rfl⟩ := ha
  rw [f_last σ b hk] at c ⊢
  cases h : lastN (σ.2.2 21) b k with
  | none => rw [h] at c; exact absurd rfl c
  | some j =>
    have := lastN_lt h
    exact vp_in_nI (by omega) (by omega)
theorem in_ct {x B : Int32} {N : Nat} (hN : N < 1000000) (hB : Ct B N) (c : ¬ f_X10_in x.toInt64 0 (B - 1).toInt64 = 0) : ∃ j, x = nI j ∧ j < B.toNatClampNeg ∧ j < N := by
  obtain ⟨k, hk, rfl⟩ := hB
  rw [f_in_k x 0 _ 0 _ rfl rfl] at c
  by_cases q : (0 : Int32) ≤ x ∧ x ≤ nI k - 1
  · obtain ⟨j, hj, rfl⟩ := nI_of (Int32.not_lt.mpr q.1)
    rw [nI_clamp (by omega)]
    cases k with
    | zero =>
      have h2 : nI j ≤ -1 := q.2
      have h3 : ¬ (nI j ≤ -1) := by
        rw [Int32.le_iff_toInt_le, nI_toInt hj]
        simp only [show (-1 : Int32).toInt = -1 from rfl]
        omega
      exact absurd h2 h3
    | succ m =>
      have h2 := q.2
      rw [nI_pred] at h2
      have := (nI_leI hj (by omega)).mp h2
      exact ⟨j, rfl, by omega, by omega⟩
  · rw [if_neg q] at c; exact absurd rfl c
theorem in_ct' {x B : Int32} {N : Nat} (hN : N < 1000000) (hB : Ct B N) (c : ¬ f_X10_in x.toInt64 0 (B - 1).toInt64 = 0) : vp_in x N := by
  obtain ⟨j, rfl, -, h⟩ := in_ct hN hB c
  exact vp_in_nI h (by omega)
theorem isWine_in {σ : MSt} (h : MInv σ) {x : Int32} (c : ¬ f_X10_isWine σ x = 0) : vp_in x 8 := in_ct' (by decide) h.nw c
theorem isBottle_in {σ : MSt} (h : MInv σ) {x : Int32} (c : ¬ f_X10_isBottle σ x = 0) : vp_in x 24 := in_ct' (by decide) h.nb c
theorem in_k {x a' b' : Int32} {N : Nat} {a b : Int64} (ha : a = a'.toInt64) (hb : b = b'.toInt64) (h0 : a' = 0) (hN : N < 1000000) (h1 : b' = nI N - 1) (c : ¬ f_X10_in x.toInt64 a b = 0) : vp_in x N := by
  subst ha; subst hb; subst h0; subst h1
  exact in_ct' hN ⟨N, Nat.le_refl N, rfl⟩ c
theorem lt_ct {x B : Int32} {N : Nat} (hN : N < 1000000) (hB : Ct B N) (hx : Ct x N) (c : ¬ B ≤ x) : vp_in x N := (Ct.up hN hB hx c).1
theorem ne_ct {x : Int32} {N : Nat} (hN : N < 1000000) (hx : Ct x N) (c : ¬ x = nI N) : vp_in x N := by
  obtain ⟨k, hk, rfl⟩ := hx
  exact vp_in_nI (by rcases Nat.lt_or_ge k N with q | q; exact q; exact absurd (by rw [show k = N by omega]) c) (by omega)
theorem barsOf_8 (σ : MSt) (b : Int32) : vp_in (f_X10_barsOf σ b) 8 := by
  unfold f_X10_barsOf
  (repeat' split) <;> (unfold vp_in; decide)
theorem oddsOf_8 (σ : MSt) (b : Int32) : vp_in (f_X10_oddsOf σ b) 8 := by
  unfold f_X10_oddsOf
  (repeat' split) <;> (unfold vp_in; decide)
