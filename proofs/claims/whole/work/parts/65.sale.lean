/-! writers: sale -/
def gpN (sb ss sy : Nat → Int32) (b : Int32) : Nat → Int32
  | 0 => 0
  | k + 1 => if sb k = b then (match lastN sb b k with
    | none => gpN sb ss sy b k + 0
    | some j => if sy j = ss k then gpN sb ss sy b k + 0 else gpN sb ss sy b k + 1) else gpN sb ss sy b k + 0
def chN (sb ss sy : Nat → Int32) (b : Int32) : Nat → Int32
  | 0 => 0
  | k + 1 => if sb k = b then (match lastN sb b k with
    | none => 1
    | some j => if sy j = ss k then chN sb ss sy b k + 1 else 1) else chN sb ss sy b k
theorem nI_m1 {k : Nat} (hk : k < 1000000) : ¬ nI k = -1 := fun z => absurd (z ▸ nI_pos' (show k < 2 ^ 31 by omega) : (0 : Int32) ≤ -1) (by decide)
section SL
variable {τ : MSt} {b : Int32} {s : Nat}
theorem gapL (hs : s ≤ 40) (e : τ.1 26 = nI s) : ∀ n k, k ≤ s → s - k < n → f_X10_gapOf_L4 n τ b (gpN (τ.2.2 21) (τ.2.2 22) (τ.2.2 23) b k) (nI k) = gpN (τ.2.2 21) (τ.2.2 22) (τ.2.2 23) b s := by
  intro n
  induction n with
  | zero => intro k _ h; exact absurd h (Nat.not_lt_zero _)
  | succ n ih =>
    intro k hk hn
    rw [f_X10_gapOf_L4, e]
    by_cases c : k = s
    · subst c
      rw [if_pos (Int32.le_refl _)]
    · have c1 : ¬ nI s ≤ nI k := fun q => by have := (nI_leI (by omega) (by omega)).mp q; omega
      have ih1 := ih (k + 1) (by omega) (by omega)
      rw [gpN] at ih1
      rw [if_neg c1, nI_clamp (show k < 2 ^ 31 by omega), nI_1, f_last τ b (show k ≤ 40 by omega)]
      by_cases a1 : τ.2.2 21 k = b
      · rw [if_pos a1] at ih1 ⊢
        cases hl : lastN (τ.2.2 21) b k with
        | none =>
          rw [hl] at ih1
          exact ih1
        | some j =>
          rw [hl] at ih1
          have jk := (lastN_lt hl).1
          show (if nI j = -1 then _ else _) = _
          rw [if_neg (nI_m1 (show j < 1000000 by omega)), show oI (some j) = nI j from rfl, nI_clamp (show j < 2 ^ 31 by omega)]
          by_cases a2 : τ.2.2 23 j = τ.2.2 22 k
          · rw [if_pos a2]
            dsimp only at ih1
            rw [if_pos a2] at ih1
            exact ih1
          · rw [if_neg a2]
            dsimp only at ih1
            rw [if_neg a2] at ih1
            exact ih1
      · rw [if_neg a1] at ih1 ⊢
        exact ih1
theorem gp_is (hs : s ≤ 40) (e : τ.1 26 = nI s) : f_X10_gapOf τ b = gpN (τ.2.2 21) (τ.2.2 22) (τ.2.2 23) b s := gapL hs e 42 0 (Nat.zero_le _) (by omega)
theorem chainL (b : Int32) : ∀ (k : Nat), k ≤ 40 → ∀ (n : Nat) (acc : Int32), k < n → f_X10_chain_L23 n τ b (oI (lastN (τ.2.2 21) b k)) acc = acc + chN (τ.2.2 21) (τ.2.2 22) (τ.2.2 23) b k := by
  intro k
  induction k with
  | zero =>
    intro _ n acc hn
    obtain ⟨m, rfl⟩ : ∃ m, n = m + 1 := ⟨n - 1, by omega⟩
    show f_X10_chain_L23 (m + 1) τ b (-1) acc = acc + 0
    rw [f_X10_chain_L23, if_pos rfl, Int32.add_zero]
  | succ k ih =>
    intro hk n acc hn
    rw [lastN, chN]
    by_cases a1 : τ.2.2 21 k = b
    · rw [if_pos a1, if_pos a1]
      obtain ⟨m, rfl⟩ : ∃ m, n = m + 1 := ⟨n - 1, by omega⟩
      show f_X10_chain_L23 (m + 1) τ b (nI k) acc = _
      rw [f_X10_chain_L23, if_neg (nI_m1 (show k < 1000000 by omega)), f_last τ b (show k ≤ 40 by omega)]
      have ih1 := ih (by omega) m (acc + 1) (by omega)
      obtain ⟨m', rfl⟩ : ∃ m', m = m' + 1 := ⟨m - 1, by omega⟩
      have one : f_X10_chain_L23 (m' + 1) τ b (-1) (acc + 1) = acc + 1 := by rw [f_X10_chain_L23, if_pos rfl]
      cases hl : lastN (τ.2.2 21) b k with
      | none =>
        show f_X10_chain_L23 (m' + 1) τ b (-1) (acc + 1) = acc + 1
        exact one
      | some j =>
        rw [hl] at ih1
        have jk := (lastN_lt hl).1
        show (if nI j = -1 then _ else _) = _
        rw [if_neg (nI_m1 (show j < 1000000 by omega)), show oI (some j) = nI j from rfl, nI_clamp (show j < 2 ^ 31 by omega), nI_clamp (show k < 2 ^ 31 by omega)]
        dsimp only
        by_cases a2 : τ.2.2 23 j = τ.2.2 22 k
        · rw [if_pos a2, if_pos a2, Int32.add_comm (chN _ _ _ _ k) 1, ← Int32.add_assoc]
          exact ih1
        · rw [if_neg a2, if_neg a2]
          exact one
    · rw [if_neg a1, if_neg a1]
      exact ih (by omega) n acc (by omega)
theorem ch_is (hs : s ≤ 40) (e : τ.1 26 = nI s) (i : Nat) : chn τ i = chN (τ.2.2 21) (τ.2.2 22) (τ.2.2 23) (nI i) s := by
  unfold chn
  rw [e, f_last τ (nI i) hs, chainL (nI i) s hs 42 0 (by omega), Int32.zero_add]
def owN (sb sy : Nat → Int32) (b : Int32) (s : Nat) : Int32 := match lastN sb b s with
  | none => -1
  | some j => sy j
def lyN (sb ye : Nat → Int32) (b : Int32) (s : Nat) : Int32 := match lastN sb b s with
  | none => 0
  | some j => ye j
theorem ow_is (hs : s ≤ 40) (e : τ.1 26 = nI s) : f_X10_ownerOf τ b = owN (τ.2.2 21) (τ.2.2 23) b s := by
  unfold f_X10_ownerOf owN
  rw [e, f_last τ b hs]
  cases hl : lastN (τ.2.2 21) b s with
  | none => rfl
  | some j =>
    have jk := (lastN_lt hl).1
    show (if nI j = -1 then _ else τ.2.2 23 (nI j).toNatClampNeg) = τ.2.2 23 j
    rw [if_neg (nI_m1 (show j < 1000000 by omega)), nI_clamp (show j < 2 ^ 31 by omega)]
theorem ly_is (hs : s ≤ 40) (e : τ.1 26 = nI s) (i : Nat) : lastY τ i = lyN (τ.2.2 21) (τ.2.2 25) (nI i) s := by
  unfold lastY lyN
  rw [e, f_last τ (nI i) hs]
  cases hl : lastN (τ.2.2 21) (nI i) s with
  | none => rfl
  | some j =>
    have jk := (lastN_lt hl).1
    show (if nI j = -1 then _ else τ.2.2 25 (nI j).toNatClampNeg) = τ.2.2 25 j
    rw [if_neg (nI_m1 (show j < 1000000 by omega)), nI_clamp (show j < 2 ^ 31 by omega)]
end SL
theorem lastN_cg {sb sb' : Nat → Int32} (b : Int32) : ∀ k, (∀ i, i < k → sb' i = sb i) → lastN sb' b k = lastN sb b k
  | 0, _ => rfl
  | k + 1, h => by rw [lastN, lastN, h k (by omega), lastN_cg b k (fun i hi => h i (by omega))]
theorem gpN_cg {sb sb' ss ss' sy sy' : Nat → Int32} (b : Int32) : ∀ k, (∀ i, i < k → sb' i = sb i ∧ ss' i = ss i ∧ sy' i = sy i) → gpN sb' ss' sy' b k = gpN sb ss sy b k
  | 0, _ => rfl
  | k + 1, h => by
    obtain ⟨a, c, _⟩ := h k (by omega)
    rw [gpN, gpN, a, c, lastN_cg b k (fun i hi => (h i (by omega)).1), gpN_cg b k (fun i hi => h i (by omega))]
    cases hl : lastN sb b k with
    | none => rfl
    | some j => dsimp only; rw [(h j (by have := (lastN_lt hl).1; omega)).2.2]
theorem chN_cg {sb sb' ss ss' sy sy' : Nat → Int32} (b : Int32) : ∀ k, (∀ i, i < k → sb' i = sb i ∧ ss' i = ss i ∧ sy' i = sy i) → chN sb' ss' sy' b k = chN sb ss sy b k
  | 0, _ => rfl
  | k + 1, h => by
    obtain ⟨a, c, _⟩ := h k (by omega)
    rw [chN, chN, a, c, lastN_cg b k (fun i hi => (h i (by omega)).1), chN_cg b k (fun i hi => h i (by omega))]
    cases hl : lastN sb b k with
    | none => rfl
    | some j => dsimp only; rw [(h j (by have := (lastN_lt hl).1; omega)).2.2]
/-- what a bottle knows after a sale of it -/
theorem pass_is (S : XSh) (σ : XSt) (o : Nat) (p1 p2 p3 : Int32) : (∀ c, c ≠ 1 → (f_X1_passOn S σ o p1 p2 p3).1 c = σ.1 c) ∧ (f_X1_passOn S σ o p1 p2 p3).2 = σ.2 ∧ (∀ o' k, o' ≠ o → (f_X1_passOn S σ o p1 p2 p3).1 1 o' k = σ.1 1 o' k) ∧ (∀ k, k < 4 → (f_X1_passOn S σ o p1 p2 p3).1 1 o k = σ.1 1 o k) ∧ (f_X1_passOn S σ o p1 p2 p3).1 1 o 4 = σ.1 1 o 4 + 1 ∧ (f_X1_passOn S σ o p1 p2 p3).1 1 o 5 = p2 ∧ (f_X1_passOn S σ o p1 p2 p3).1 1 o 8 = p3 ∧ (f_X1_passOn S σ o p1 p2 p3).1 1 o 6 = (if σ.1 1 o 4 ≤ 0 then σ.1 1 o 6 else if p1 = σ.1 1 o 5 then σ.1 1 o 6 else σ.1 1 o 6 + 1) ∧ (f_X1_passOn S σ o p1 p2 p3).1 1 o 7 = (if σ.1 1 o 4 ≤ 0 then 1 else if p1 = σ.1 1 o 5 then σ.1 1 o 7 + 1 else 1) := by
  have n12 {k k' : Nat} {x : Int32} {s : XSt} (h : k' ≠ k) : (xp s 1 o k x).1 1 o k' = s.1 1 o k' := xp_o (fun z => h z.2.2)
  have no {o' k k' : Nat} {x : Int32} {s : XSt} (h : o' ≠ o) : (xp s 1 o k x).1 1 o' k' = s.1 1 o' k' := xp_o (fun z => h z.2.1)
  unfold f_X1_passOn
  by_cases c0 : σ.1 1 o 4 ≤ 0
  · simp only [if_pos c0]
    refine ⟨fun c hc => by rw [xp_c hc, xp_c hc, xp_c hc, xp_c hc], rfl, fun o' k ho => by rw [no ho, no ho, no ho, no ho], fun k hk => by rw [n12 (by omega), n12 (by omega), n12 (by omega), n12 (by omega)], ?_, ?_, ?_, ?_, ?_⟩
    · rw [n12 (by decide), n12 (by decide), xp_s, n12 (by decide)]
    · rw [n12 (by decide), xp_s]
    · rw [xp_s]
    · rw [n12 (by decide), n12 (by decide), n12 (by decide), n12 (by decide)]
    · rw [n12 (by decide), n12 (by decide), n12 (by decide), xp_s]
  · by_cases c1 : p1 = σ.1 1 o 5
    · simp only [if_neg c0, if_pos c1]
      refine ⟨fun c hc => by rw [xp_c hc, xp_c hc, xp_c hc, xp_c hc], rfl, fun o' k ho => by rw [no ho, no ho, no ho, no ho], fun k hk => by rw [n12 (by omega), n12 (by omega), n12 (by omega), n12 (by omega)], ?_, ?_, ?_, ?_, ?_⟩
      · rw [n12 (by decide), n12 (by decide), xp_s, n12 (by decide)]
      · rw [n12 (by decide), xp_s]
      · rw [xp_s]
      · rw [n12 (by decide), n12 (by decide), n12 (by decide), n12 (by decide)]
      · rw [n12 (by decide), n12 (by decide), n12 (by decide), xp_s]
    · simp only [if_neg c0, if_neg c1]
      refine ⟨fun c hc => by rw [xp_c hc, xp_c hc, xp_c hc, xp_c hc, xp_c hc], rfl, fun o' k ho => by rw [no ho, no ho, no ho, no ho, no ho], fun k hk => by rw [n12 (by omega), n12 (by omega), n12 (by omega), n12 (by omega), n12 (by omega)], ?_, ?_, ?_, ?_, ?_⟩
      · rw [n12 (by decide), n12 (by decide), xp_s, n12 (by decide), n12 (by decide)]
      · rw [n12 (by decide), xp_s]
      · rw [xp_s]
      · rw [n12 (by decide), n12 (by decide), n12 (by decide), n12 (by decide), xp_s]
      · rw [n12 (by decide), n12 (by decide), n12 (by decide), xp_s]
