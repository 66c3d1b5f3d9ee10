/-! the reference's laying back -/
theorem bkL94 : ∀ (n k : Nat) (τ : MSt), k ≤ 3 → 3 - k < n → ∃ τ1, f_X10_back_L94 n τ (nI k) = (τ.1 26, τ1) ∧ τ1.1 = τ.1 ∧ (∀ j, j ≠ 15 → τ1.2.2 j = τ.2.2 j) ∧ ∀ i, τ1.2.2 15 i = if k ≤ i ∧ i < 3 then τ.2.2 51 i else τ.2.2 15 i := by
  intro n
  induction n with
  | zero => intro k τ _ h; exact absurd h (Nat.not_lt_zero _)
  | succ n ih =>
    intro k τ hk hn
    rw [f_X10_back_L94]
    by_cases c : k = 3
    · subst c
      rw [if_pos (by decide : (3 : Int32) ≤ nI 3)]
      exact ⟨τ, rfl, rfl, fun _ _ => rfl, fun i => by rw [if_neg (by omega)]⟩
    · have c1 : ¬ (3 : Int32) ≤ nI k := fun q => by have := (nI_leI (a := 3) (by decide) (by omega)).mp q; omega
      rw [if_neg c1, nI_clamp (show k < 2 ^ 31 by omega), nI_1]
      obtain ⟨τ1, e1, e2, e3, e4⟩ := ih (k + 1) (ma τ 15 k (τ.2.2 51 k)) (by omega) (by omega)
      refine ⟨τ1, e1, e2, fun j hj => (e3 j hj).trans (ma_j hj), fun i => ?_⟩
      rw [e4 i, ma_j (by decide), ma_k]
      by_cases q : i = k
      · rw [if_neg (show ¬ (k + 1 ≤ i ∧ i < 3) by omega), if_pos (show k ≤ i ∧ i < 3 by omega), q, upd_at]
      · rw [upd_ne q]
        by_cases q2 : k ≤ i ∧ i < 3
        · rw [if_pos (show k + 1 ≤ i ∧ i < 3 by omega), if_pos q2]
        · rw [if_neg (show ¬ (k + 1 ≤ i ∧ i < 3) by omega), if_neg q2]
theorem bkL56 : ∀ (n k : Nat) (τ : MSt), k ≤ 12 → 12 - k < n → ∃ τ1, f_X10_back_L56 n τ (nI k) = (τ.1 26, τ1) ∧ τ1.1 = τ.1 ∧ (∀ j, ¬ (13 ≤ j ∧ j ≤ 15) → τ1.2.2 j = τ.2.2 j) ∧ (∀ i, τ1.2.2 13 i = (if k ≤ i ∧ i < 12 then τ.2.2 49 i else τ.2.2 13 i) ∧ τ1.2.2 14 i = if k ≤ i ∧ i < 12 then τ.2.2 50 i else τ.2.2 14 i) ∧ ∀ i, τ1.2.2 15 i = if i < 3 then τ.2.2 51 i else τ.2.2 15 i := by
  intro n
  induction n with
  | zero => intro k τ _ h; exact absurd h (Nat.not_lt_zero _)
  | succ n ih =>
    intro k τ hk hn
    rw [f_X10_back_L56]
    by_cases c : k = 12
    · subst c
      rw [if_pos (by decide : (12 : Int32) ≤ nI 12)]
      obtain ⟨τ1, e1, e2, e3, e4⟩ := bkL94 5 0 τ (Nat.zero_le _) (by decide)
      refine ⟨τ1, e1, e2, fun j hj => e3 j (by omega), fun i => ?_, fun i => ?_⟩
      · have k0 : ¬ (12 ≤ i ∧ i < 12) := by omega
        rw [if_neg k0, if_neg k0, e3 13 (by decide), e3 14 (by decide)]
        exact ⟨rfl, rfl⟩
      · rw [e4 i]
        by_cases q : i < 3
        · rw [if_pos (⟨Nat.zero_le _, q⟩ : 0 ≤ i ∧ i < 3), if_pos q]
        · rw [if_neg (fun z : 0 ≤ i ∧ i < 3 => q z.2), if_neg q]
    · have c1 : ¬ (12 : Int32) ≤ nI k := fun q => by have := (nI_leI (a := 12) (by decide) (by omega)).mp q; omega
      rw [if_neg c1, nI_clamp (show k < 2 ^ 31 by omega), nI_1, ma_j (show 50 ≠ 13 by decide)]
      obtain ⟨τ1, e1, e2, e3, e4, e5⟩ := ih (k + 1) (ma (ma τ 13 k (τ.2.2 49 k)) 14 k (τ.2.2 50 k)) (by omega) (by omega)
      refine ⟨τ1, e1, e2, fun j hj => (e3 j hj).trans ((ma_j (by omega)).trans (ma_j (by omega))), fun i => ?_, fun i => by rw [e5 i, ma_j (show 51 ≠ 14 by decide), ma_j (show 51 ≠ 13 by decide), ma_j (show 15 ≠ 14 by decide), ma_j (show 15 ≠ 13 by decide)]⟩
      obtain ⟨a, b⟩ := e4 i
      rw [a, b, ma_j (show 49 ≠ 14 by decide), ma_j (show 49 ≠ 13 by decide), ma_j (show 50 ≠ 14 by decide), ma_j (show 50 ≠ 13 by decide), ma_j (show 13 ≠ 14 by decide), ma_k, ma_k, ma_j (show 14 ≠ 13 by decide)]
      by_cases q : i = k
      · have k1 : ¬ (k + 1 ≤ i ∧ i < 12) := by omega
        have k2 : k ≤ i ∧ i < 12 := by omega
        rw [if_neg k1, if_neg k1, if_pos k2, if_pos k2, q, upd_at, upd_at]
        exact ⟨rfl, rfl⟩
      · rw [upd_ne q, upd_ne q]
        by_cases q2 : k ≤ i ∧ i < 12
        · have k1 : k + 1 ≤ i ∧ i < 12 := by omega
          rw [if_pos k1, if_pos k1, if_pos q2, if_pos q2]; exact ⟨rfl, rfl⟩
        · have k1 : ¬ (k + 1 ≤ i ∧ i < 12) := by omega
          rw [if_neg k1, if_neg k1, if_neg q2, if_neg q2]; exact ⟨rfl, rfl⟩
theorem bkL28 {w : Nat} (hw : w ≤ 8) : ∀ (n k : Nat) (τ : MSt), τ.1 53 = nI w → k ≤ w → w - k < n → ∃ τ1, f_X10_back_L28 n τ (nI k) = (τ.1 26, τ1) ∧ τ1.1 = τ.1 ∧ (∀ j, ¬ (j = 9 ∨ (13 ≤ j ∧ j ≤ 15)) → τ1.2.2 j = τ.2.2 j) ∧ (∀ i, τ1.2.2 9 i = if k ≤ i ∧ i < w then τ.2.2 48 i else τ.2.2 9 i) ∧ (∀ i, τ1.2.2 13 i = (if i < 12 then τ.2.2 49 i else τ.2.2 13 i) ∧ τ1.2.2 14 i = if i < 12 then τ.2.2 50 i else τ.2.2 14 i) ∧ ∀ i, τ1.2.2 15 i = if i < 3 then τ.2.2 51 i else τ.2.2 15 i := by
  intro n
  induction n with
  | zero => intro k τ _ _ h; exact absurd h (Nat.not_lt_zero _)
  | succ n ih =>
    intro k τ ew hk hn
    rw [f_X10_back_L28, ew]
    by_cases c : k = w
    · subst c
      rw [if_pos (Int32.le_refl _)]
      obtain ⟨τ1, e1, e2, e3, e4, e5⟩ := bkL56 14 0 τ (Nat.zero_le _) (by decide)
      refine ⟨τ1, e1, e2, fun j hj => e3 j (by omega), fun i => by rw [if_neg (by omega), e3 9 (by decide)], fun i => ?_, e5⟩
      obtain ⟨a, b⟩ := e4 i
      rw [a, b]
      by_cases q : i < 12
      · have k0 : 0 ≤ i ∧ i < 12 := ⟨Nat.zero_le _, q⟩
        rw [if_pos k0, if_pos k0, if_pos q, if_pos q]; exact ⟨rfl, rfl⟩
      · have k0 : ¬ (0 ≤ i ∧ i < 12) := fun z => q z.2
        rw [if_neg k0, if_neg k0, if_neg q, if_neg q]; exact ⟨rfl, rfl⟩
    · have c1 : ¬ nI w ≤ nI k := fun q => by have := (nI_leI (by omega) (by omega)).mp q; omega
      rw [if_neg c1, nI_clamp (show k < 2 ^ 31 by omega), nI_1]
      obtain ⟨τ1, e1, e2, e3, e4, e5, e6⟩ := ih (k + 1) (ma τ 9 k (τ.2.2 48 k)) ew (by omega) (by omega)
      refine ⟨τ1, e1, e2, fun j hj => (e3 j hj).trans (ma_j (by omega)), fun i => ?_, fun i => by rw [(e5 i).1, (e5 i).2, ma_j (show 49 ≠ 9 by decide), ma_j (show 50 ≠ 9 by decide), ma_j (show 13 ≠ 9 by decide), ma_j (show 14 ≠ 9 by decide)]; exact ⟨rfl, rfl⟩, fun i => by rw [e6 i, ma_j (show 51 ≠ 9 by decide), ma_j (show 15 ≠ 9 by decide)]⟩
      rw [e4 i, ma_j (by decide), ma_k]
      by_cases q : i = k
      · rw [if_neg (show ¬ (k + 1 ≤ i ∧ i < w) by omega), if_pos (show k ≤ i ∧ i < w by omega), q, upd_at]
      · rw [upd_ne q]
        by_cases q2 : k ≤ i ∧ i < w
        · rw [if_pos (show k + 1 ≤ i ∧ i < w by omega), if_pos q2]
        · rw [if_neg (show ¬ (k + 1 ≤ i ∧ i < w) by omega), if_neg q2]
/-- the class's laying back, once its wines are -/
def bkF (S : XSh) (σ : XSt) : Int32 × XSt := (((f_X9_passOnAgain S (xp (xp (f_X0_become S σ 0 1) 9 0 6 ((f_X0_become S σ 0 1).1 2 0 3)) 3 0 5 ((f_X0_become S σ 0 1).1 2 0 4))).1 3 0 5), (f_X9_passOnAgain S (xp (xp (f_X0_become S σ 0 1) 9 0 6 ((f_X0_become S σ 0 1).1 2 0 3)) 3 0 5 ((f_X0_become S σ 0 1).1 2 0 4))))
theorem bkL16 {S : XSh} {w : Nat} (hw : w ≤ 8) : ∀ (n k : Nat) (σ : XSt), σ.1 2 0 2 = nI w → k ≤ w → w - k < n → ∃ σ1, f_X9_back_L16 n S σ (nI k) = bkF S σ1 ∧ σ1.2 = σ.2 ∧ (∀ c i f, ¬ (c = 8 ∧ f = 5) → σ1.1 c i f = σ.1 c i f) ∧ ∀ i, σ1.1 8 i 5 = if k ≤ i ∧ i < w then σ.2 31 0 i else σ.1 8 i 5 := by
  intro n
  induction n with
  | zero => intro k σ _ _ h; exact absurd h (Nat.not_lt_zero _)
  | succ n ih =>
    intro k σ ew hk hn
    rw [f_X9_back_L16]
    by_cases c : k = w
    · subst c
      have cw : σ.1 2 0 2 ≤ nI k := by rw [ew]; exact Int32.le_refl _
      rw [if_pos cw]
      exact ⟨σ, rfl, rfl, fun _ _ _ _ => rfl, fun i => by rw [if_neg (by omega)]⟩
    · have c1 : ¬ σ.1 2 0 2 ≤ nI k := fun q => by rw [ew] at q; have := (nI_leI (by omega) (by omega)).mp q; omega
      rw [if_neg c1, nI_clamp (show k < 2 ^ 31 by omega), nI_1]
      obtain ⟨σ1, e1, e2, e3, e4⟩ := ih (k + 1) (xp σ 8 k 5 (σ.2 31 0 k)) (by rw [xp_o (by omega)]; exact ew) (by omega) (by omega)
      refine ⟨σ1, e1, e2, fun c i f hc => (e3 c i f hc).trans (xp_o (by omega)), fun i => ?_⟩
      rw [e4 i]
      by_cases q : i = k
      · have k1 : ¬ (k + 1 ≤ i ∧ i < w) := by omega
        have k2 : k ≤ i ∧ i < w := by omega
        rw [if_neg k1, if_pos k2, q, xp_s]
      · rw [xp_o (by omega)]
        by_cases q2 : k ≤ i ∧ i < w
        · rw [if_pos (show k + 1 ≤ i ∧ i < w by omega), if_pos q2]
          rfl
        · rw [if_neg (show ¬ (k + 1 ≤ i ∧ i < w) by omega), if_neg q2]
