/-- what passing on leaves alone -/
def PK (σ σ' : XSt) : Prop := (∀ c, c ≠ 1 → σ'.1 c = σ.1 c) ∧ σ'.2 = σ.2 ∧ ∀ b f, f < 4 → σ'.1 1 b f = σ.1 1 b f
theorem PK.rf (σ : XSt) : PK σ σ := ⟨fun _ _ => rfl, rfl, fun _ _ _ => rfl⟩
theorem PK.tr {a b c : XSt} (h : PK a b) (k : PK b c) : PK a c := ⟨fun x hx => (k.1 x hx).trans (h.1 x hx), k.2.1.trans h.2.1, fun b f hf => (k.2.2 b f hf).trans (h.2.2 b f hf)⟩
theorem pass_pk (S : XSh) (σ : XSt) (o : Nat) (a b c : Int32) : PK σ (f_X1_passOn S σ o a b c) := by
  obtain ⟨x1, x2, x3, x4, _⟩ := pass_is S σ o a b c
  refine ⟨x1, x2, fun b' f hf => ?_⟩
  by_cases q : b' = o
  · rw [q]; exact x4 f hf
  · exact x3 b' f q
theorem forget_is (S : XSh) (σ : XSt) (o : Nat) : PK σ (f_X1_forgetSales S σ o) ∧ (∀ b f, b ≠ o → (f_X1_forgetSales S σ o).1 1 b f = σ.1 1 b f) ∧ (f_X1_forgetSales S σ o).1 1 o 4 = 0 ∧ (f_X1_forgetSales S σ o).1 1 o 5 = -1 ∧ (f_X1_forgetSales S σ o).1 1 o 6 = 0 ∧ (f_X1_forgetSales S σ o).1 1 o 7 = 0 ∧ (f_X1_forgetSales S σ o).1 1 o 8 = 0 := by
  unfold f_X1_forgetSales
  refine ⟨⟨fun c hc => by rw [xp_c hc, xp_c hc, xp_c hc, xp_c hc, xp_c hc], rfl, fun b f hf => by rw [xp_o (by omega), xp_o (by omega), xp_o (by omega), xp_o (by omega), xp_o (by omega)]⟩, fun b f hb => by rw [xp_o (by omega), xp_o (by omega), xp_o (by omega), xp_o (by omega), xp_o (by omega)], ?_, ?_, ?_, ?_, ?_⟩
  · rw [xp_o (by omega), xp_o (by omega), xp_o (by omega), xp_o (by omega), xp_s]
  · rw [xp_o (by omega), xp_o (by omega), xp_o (by omega), xp_s]
  · rw [xp_o (by omega), xp_o (by omega), xp_s]
  · rw [xp_o (by omega), xp_s]
  · rw [xp_s]
theorem againL33 {S : XSh} {sb ss sy ye : Nat → Int32} {s : Nat} (hs : s ≤ 40) (h24 : S 0 1 ≤ 24) (hb : ∀ i, i < s → ∃ b : Nat, b < S 0 1 ∧ sb i = nI b) (hy : ∀ j, j < s → ∃ q : Nat, q < 10 ∧ sy j = nI q) : ∀ (n k : Nat) (σ : XSt), σ.1 3 0 5 = nI s → σ.2 23 0 = sb → σ.2 24 0 = ss → σ.2 25 0 = sy → σ.2 27 0 = ye → PD S σ sb ss sy ye k → k ≤ s → s - k < n → PK σ (f_X9_passOnAgain_L33 n S σ (nI k)) ∧ PD S (f_X9_passOnAgain_L33 n S σ (nI k)) sb ss sy ye s := by
  intro n
  induction n with
  | zero => intro k σ _ _ _ _ _ _ _ h; exact absurd h (Nat.not_lt_zero _)
  | succ n ih =>
    intro k σ es e1 e2 e3 e4 hP hk hn
    rw [f_X9_passOnAgain_L33, es]
    by_cases c : k = s
    · subst c
      rw [if_pos (Int32.le_refl _)]
      exact ⟨PK.rf σ, hP⟩
    · have c1 : ¬ nI s ≤ nI k := fun q => by have := (nI_leI (by omega) (by omega)).mp q; omega
      obtain ⟨b, hb1, eb⟩ := hb k (by omega)
      rw [if_neg c1, nI_clamp (show k < 2 ^ 31 by omega), e1, e2, e3, e4, eb, nI_clamp (show b < 2 ^ 31 by omega), nI_1]
      have p := pass_pk S σ b (ss k) (sy k) (ye k)
      have r := ih (k + 1) (f_X1_passOn S σ b (ss k) (sy k) (ye k)) (by rw [p.1 3 (by decide)]; exact es) (by rw [p.2.1]; exact e1) (by rw [p.2.1]; exact e2) (by rw [p.2.1]; exact e3) (by rw [p.2.1]; exact e4) (hP.step (by omega) h24 hb1 eb (fun j hj => hy j (by omega))) (by omega) (by omega)
      exact ⟨p.tr r.1, r.2⟩
theorem againL2 {S : XSh} (h24 : S 0 1 ≤ 24) : ∀ (n k : Nat) (σ : XSt), σ.1 9 0 3 = nI (S 0 1) → k ≤ S 0 1 → S 0 1 - k < n → ∃ σ1, f_X9_passOnAgain_L2 n S σ (nI k) = f_X9_passOnAgain_L33 42 S σ1 0 ∧ PK σ σ1 ∧ (∀ b f, b < k → σ1.1 1 b f = σ.1 1 b f) ∧ ∀ b, k ≤ b → b < S 0 1 → σ1.1 1 b 4 = 0 ∧ σ1.1 1 b 5 = -1 ∧ σ1.1 1 b 6 = 0 ∧ σ1.1 1 b 7 = 0 ∧ σ1.1 1 b 8 = 0 := by
  intro n
  induction n with
  | zero => intro k σ _ _ h; exact absurd h (Nat.not_lt_zero _)
  | succ n ih =>
    intro k σ es hk hn
    rw [f_X9_passOnAgain_L2, es]
    by_cases c : k = S 0 1
    · rw [c, if_pos (Int32.le_refl _)]
      exact ⟨σ, rfl, PK.rf σ, fun _ _ _ => rfl, fun b h1 h2 => absurd h2 (by omega)⟩
    · have c1 : ¬ nI (S 0 1) ≤ nI k := fun q => by have := (nI_leI (by omega) (by omega)).mp q; omega
      rw [if_neg c1, nI_clamp (show k < 2 ^ 31 by omega), nI_1]
      obtain ⟨p, po, f4, f5, f6, f7, f8⟩ := forget_is S σ k
      obtain ⟨σ1, a1, a2, a3, a4⟩ := ih (k + 1) (f_X1_forgetSales S σ k) (by rw [p.1 9 (by decide)]; exact es) (by omega) (by omega)
      refine ⟨σ1, a1, p.tr a2, fun b f hb => (a3 b f (by omega)).trans (po b f (by omega)), fun b h1 h2 => ?_⟩
      by_cases q : b = k
      · subst q
        rw [a3 b 4 (by omega), a3 b 5 (by omega), a3 b 6 (by omega), a3 b 7 (by omega), a3 b 8 (by omega)]
        exact ⟨f4, f5, f6, f7, f8⟩
      · exact a4 b (by omega) h2
