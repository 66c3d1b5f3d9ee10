/-! the class's state and the reference's -/
def codes (r : (List Int32 × Ev) × (List Int32 × Ev) × (List Int32 × Ev)) : List Int32 := r.1.1 ++ r.2.1.1 ++ r.2.2.1
def lastY (τ : MSt) (b : Nat) : Int32 := if f_X10_lastOf τ (nI b) (τ.1 26) = -1 then 0 else τ.2.2 25 (f_X10_lastOf τ (nI b) (τ.1 26)).toNatClampNeg
def chn (τ : MSt) (b : Nat) : Int32 := f_X10_chain_L23 42 τ (nI b) (f_X10_lastOf τ (nI b) (τ.1 26)) 0
def RelW (S : XSh) (σ : XSt) (τ : MSt) : Prop := τ.1 12 = nI (S 0 0) ∧ ∀ i, i < S 0 0 → σ.1 8 i 0 = nI i ∧ σ.1 8 i 1 = τ.2.2 7 i ∧ σ.1 8 i 2 = τ.2.2 8 i ∧ σ.1 8 i 3 = τ.2.2 10 i ∧ σ.1 8 i 4 = τ.2.2 11 i ∧ σ.1 8 i 5 = τ.2.2 9 i ∧ (∃ k : Nat, k ≤ 999999 ∧ τ.2.2 11 i = nI k) ∧ (∃ k : Nat, k ≤ 999 ∧ τ.2.2 8 i = nI k) ∧ ∃ k : Nat, k ≤ 999 ∧ τ.2.2 9 i = nI k
def RelB (S : XSh) (σ : XSt) (τ : MSt) : Prop := τ.1 20 = nI (S 0 1) ∧ ∀ b, b < S 0 1 → σ.1 1 b 0 = τ.2.2 16 b ∧ τ.2.2 17 b = nI (S 1 b) ∧ τ.2.2 18 b = nI (S 2 b) ∧ ∀ p, P3 p → f_X9_partOf (σ.1 1 b 3) p = f_X10_showsOf τ (nI b) p
def RelS (σ : XSt) (τ : MSt) : Prop := τ.1 26 = σ.1 3 0 5 ∧ σ.2 23 0 = τ.2.2 21 ∧ σ.2 24 0 = τ.2.2 22 ∧ σ.2 25 0 = τ.2.2 23 ∧ σ.2 26 0 = τ.2.2 24 ∧ σ.2 27 0 = τ.2.2 25 ∧ ∀ i, i < (τ.1 26).toNatClampNeg → (∃ k : Nat, k < 10 ∧ τ.2.2 23 i = nI k) ∧ (∃ k : Nat, k < 10 ∧ τ.2.2 22 i = nI k) ∧ ¬ τ.2.2 22 i = τ.2.2 23 i ∧ ∃ k : Nat, k ≤ 9999 ∧ τ.2.2 24 i = nI k
def RelD (S : XSh) (σ : XSt) (τ : MSt) : Prop := ∀ b, b < S 0 1 → σ.1 1 b 5 = f_X10_ownerOf τ (nI b) ∧ σ.1 1 b 6 = f_X10_gapOf τ (nI b) ∧ σ.1 1 b 7 = chn τ b ∧ σ.1 1 b 8 = lastY τ b ∧ Ct (σ.1 1 b 4) 40 ∧ (σ.1 1 b 4 = 0 ↔ f_X10_ownerOf τ (nI b) = -1) ∧ ∃ k : Nat, k ≤ (τ.1 26).toNatClampNeg ∧ σ.1 1 b 4 = nI k
def RelK (σ : XSt) (τ : MSt) : Prop := σ.2 20 0 = τ.2.2 13 ∧ σ.2 21 0 = τ.2.2 14 ∧ σ.2 22 0 = τ.2.2 15
def RelI (S : XSh) (σ : XSt) (τ : MSt) : Prop := (σ.1 2 0 4 = -1 ∧ τ.1 52 = 0) ∨ (¬ τ.1 52 = 0 ∧ ¬ σ.1 2 0 4 = -1 ∧ σ.1 2 0 4 = τ.1 54 ∧ σ.1 2 0 2 = τ.1 53 ∧ σ.1 2 0 3 = τ.1 55 ∧ (∃ k : Nat, k < S 0 2 ∧ σ.1 2 0 3 = nI k) ∧ (∀ i, i < 12 → σ.2 20 1 i = τ.2.2 49 i) ∧ (∀ i, i < 12 → σ.2 21 1 i = τ.2.2 50 i) ∧ (∀ i, i < 3 → σ.2 22 1 i = τ.2.2 51 i) ∧ ∀ i, i < (τ.1 53).toNatClampNeg → σ.2 31 0 i = τ.2.2 48 i ∧ ∃ k : Nat, k ≤ 999 ∧ τ.2.2 48 i = nI k)
def RelR (S : XSh) (σ : XSt) (τ : MSt) : Prop := τ.1 3 = nI (S 0 2) ∧ τ.1 4 = σ.1 9 0 6 ∧ (∃ k : Nat, k < S 0 2 ∧ σ.1 9 0 6 = nI k) ∧ ∀ i, i < S 0 2 → ∃ r, textG (txt τ i) = .ok r ∧ S 5 i = (codes r).length ∧ (codes r).length ≤ 160 ∧ (∀ j, j < (codes r).length → σ.2 32 i j = (codes r).getD j 0) ∧ σ.1 5 i 1 = nI r.1.1.length ∧ σ.1 5 i 2 = nI (r.1.1 ++ r.2.1.1).length
def RelT (σ : XSt) (τ : MSt) : Prop := τ.1 6 = σ.1 4 0 2 ∧ ∀ i, i < (τ.1 6).toNatClampNeg → τ.2.2 5 i = σ.2 28 0 i &&& 255 ∧ vp_nar .byte (σ.2 28 0 i) = σ.2 28 0 i
def RelG (S : XSh) (σ : XSt) (τ : MSt) : Prop := ∀ t, t < 6 → σ.1 7 t 0 = τ.2.2 42 t ∧ σ.1 7 t 1 = f_X10_tongue τ (nI t) 1 ∧ σ.1 7 t 2 = f_X10_tongue τ (nI t) 0 ∧ σ.1 7 t 3 = f_X10_tongue τ (nI t) 3 ∧ σ.1 7 t 4 = f_X10_tongue τ (nI t) 2 ∧ ∀ k, k < (τ.2.2 42 t).toNatClampNeg → ∃ b : Nat, b < S 0 1 ∧ τ.2.2 43 (12 * t + k) = nI b
def RelH (σ : XSt) (τ : MSt) : Prop := ∀ s, s < 4 → (τ.2.2 56 s = 0 ∧ σ.1 6 s 1 = -1) ∨ (¬ τ.2.2 56 s = 0 ∧ ¬ σ.1 6 s 1 = -1 ∧ σ.1 6 s 1 = τ.2.2 57 s ∧ σ.1 6 s 2 = τ.2.2 58 s ∧ ∀ i, i < (τ.2.2 58 s).toNatClampNeg → σ.2 30 s i = τ.2.2 59 (40 * s + i))
def Rel (S : XSh) (σ : XSt) (τ : MSt) : Prop := RelW S σ τ ∧ RelB S σ τ ∧ RelS σ τ ∧ RelD S σ τ ∧ RelK σ τ ∧ RelI S σ τ ∧ RelR S σ τ ∧ RelT σ τ ∧ RelG S σ τ ∧ RelH σ τ
section RL
variable {S : XSh} {σ : XSt} {τ : MSt}
theorem Rel.w (h : Rel S σ τ) : RelW S σ τ := h.1
theorem Rel.b (h : Rel S σ τ) : RelB S σ τ := h.2.1
theorem Rel.s (h : Rel S σ τ) : RelS σ τ := h.2.2.1
theorem Rel.d (h : Rel S σ τ) : RelD S σ τ := h.2.2.2.1
theorem Rel.k (h : Rel S σ τ) : RelK σ τ := h.2.2.2.2.1
theorem Rel.i (h : Rel S σ τ) : RelI S σ τ := h.2.2.2.2.2.1
theorem Rel.r (h : Rel S σ τ) : RelR S σ τ := h.2.2.2.2.2.2.1
theorem Rel.t (h : Rel S σ τ) : RelT σ τ := h.2.2.2.2.2.2.2.1
theorem Rel.g (h : Rel S σ τ) : RelG S σ τ := h.2.2.2.2.2.2.2.2.1
theorem Rel.h (h : Rel S σ τ) : RelH σ τ := h.2.2.2.2.2.2.2.2.2
end RL
theorem in_up (v : Int32) (M : Int64) (m : Int32) (h : M = m.toInt64) : f_X10_in v.toInt64 0 M = f_X9_isUpTo v m := by rw [f_upTo, f_in_k v 0 M 0 m rfl h]
theorem bel_up (v : Int32) (k : Nat) (hk : k < 1000000) : f_X9_isBelow v (nI (k + 1)) = f_X9_isUpTo v (nI k) := by
  rw [f_upTo, f_below]
  by_cases h0 : (0 : Int32) ≤ v
  · obtain ⟨j, hj, rfl⟩ := nI_of (Int32.not_lt.mpr h0)
    by_cases q : j ≤ k
    · rw [if_pos ⟨h0, nI_lt (by omega) (by omega)⟩, if_pos ⟨h0, nI_le q (by omega)⟩]
    · rw [if_neg (fun z => by have := (nI_ltI hj (by omega)).mp z.2; omega), if_neg (fun z => by have := (nI_leI hj (by omega)).mp z.2; omega)]
  · rw [if_neg (fun z => h0 z.1), if_neg (fun z => h0 z.1)]
theorem in_bel (v : Int32) (M : Int64) (k : Nat) (hk : k < 1000000) (h : M = (nI k).toInt64) : f_X10_in v.toInt64 0 M = f_X9_isBelow v (nI (k + 1)) := by rw [bel_up v k hk, in_up v M (nI k) h]
/-- one of n -/
theorem in_n (p : Int32) {n : Nat} (hn : n < 1000000) : (f_X10_in p.toInt64 0 (nI n - 1).toInt64 = 0 ∧ ¬ ∃ i : Nat, i < n ∧ p = nI i) ∨ (f_X10_in p.toInt64 0 (nI n - 1).toInt64 = 1 ∧ ∃ i : Nat, i < n ∧ p = nI i) := by
  rw [show (0 : Int64) = (0 : Int32).toInt64 from rfl, f_in_32]
  cases n with
  | zero =>
    refine Or.inl ⟨if_neg (fun z => ?_), fun ⟨i, h, _⟩ => absurd h (Nat.not_lt_zero i)⟩
    have := Int32.le_trans z.1 z.2
    exact absurd this (by decide)
  | succ n =>
    rw [nI_pred]
    by_cases q : (0 : Int32) ≤ p ∧ p ≤ nI n
    · obtain ⟨j, hj, e⟩ := nI_of_rg (N := n) (by omega) q.1 q.2
      exact Or.inr ⟨if_pos q, j, by omega, e⟩
    · exact Or.inl ⟨if_neg q, fun ⟨i, h, e⟩ => q (by subst e; exact ⟨Int32.not_lt.mp (nI_pos (by omega)), nI_le (by omega) (by omega)⟩)⟩
section EQ
variable {S : XSh} {σ : XSt} {τ : MSt}
/-- a wine's number: both take it, or both refuse it -/
theorem eq_wine (h : Rel S σ τ) (hX : XInv S σ) (p : Int32) : (f_X9_wineAt S σ p = 0 ∧ f_X10_isWine τ p = 0) ∨ (f_X9_wineAt S σ p = 1 ∧ f_X10_isWine τ p = 1 ∧ ∃ i : Nat, i < S 0 0 ∧ p = nI i) := by
  have hw := hX.nw
  unfold f_X10_isWine f_X9_wineAt
  rw [h.w.1]
  rcases in_n p (n := S 0 0) (by omega) with ⟨q1, q2⟩ | ⟨q1, i, hi, rfl⟩
  · refine Or.inl ⟨?_, q1⟩
    by_cases c : f_X9_isBelow p (σ.1 9 0 1) = 0
    · rw [if_pos c]
    · exact absurd (below_n hw.1 (by omega) c) q2
  · refine Or.inr ⟨?_, q1, i, hi, rfl⟩
    have e : f_X9_isBelow (nI i) (nI (S 0 0)) = 1 := by
      rw [f_below, if_pos ⟨Int32.not_lt.mp (nI_pos (by omega)), nI_lt hi (by omega)⟩]
    rw [hw.1, e, if_neg (by decide), if_neg (fun z => by have := (nI_leI (a := 8) (by omega) (by omega)).mp z; omega)]
theorem eq_bottle (h : Rel S σ τ) (hX : XInv S σ) (p : Int32) : (f_X9_bottleAt S σ p = 0 ∧ f_X10_isBottle τ p = 0) ∨ (f_X9_bottleAt S σ p = 1 ∧ f_X10_isBottle τ p = 1 ∧ ∃ i : Nat, i < S 0 1 ∧ p = nI i) := by
  have hb := hX.nb
  unfold f_X10_isBottle
  rw [h.b.1]
  rcases in_n p (n := S 0 1) (by omega) with ⟨q1, q2⟩ | ⟨q1, q2⟩ <;> rcases f_bottleAt hX p with ⟨r1, r2⟩ | ⟨r1, r2⟩
  · exact Or.inl ⟨r1, q1⟩
  · exact absurd r2 q2
  · exact absurd q2 r2
  · exact Or.inr ⟨r1, q1, q2⟩
theorem eq_areParts (p : Int32) : f_X9_areParts p = f_X10_areParts p := by
  unfold f_X9_areParts f_X10_areParts
  rw [in_up p 333 333 rfl]
theorem eq_partOf (x p : Int32) : f_X9_partOf x p = f_X10_partOf x p := rfl
theorem eq_taste (h : Rel S σ τ) {i : Nat} (hi : i < S 0 0) (hN : S 0 0 ≤ 8) (k : Int32) : f_X8_taste S σ i k = f_X10_tasteOf τ (nI i) k := by
  unfold f_X8_taste f_X10_tasteOf
  rw [(h.w.2 i hi).2.2.2.2.1, nI_clamp (by omega)]
theorem taste_n (h : Rel S σ τ) {i : Nat} (hi : i < S 0 0) (hN : S 0 0 ≤ 8) (k : Int32) : ∃ t : Nat, t < 100 ∧ f_X10_tasteOf τ (nI i) k = nI t := by
  obtain ⟨x, hx, e⟩ := (h.w.2 i hi).2.2.2.2.2.2.1
  unfold f_X10_tasteOf
  rw [nI_clamp (by omega), e]
  have d1 : nI x / 10000 = nI (x / 10000) := pk_div (d := 10000) (by omega) (by decide) (by decide)
  have d2 : nI x / 100 = nI (x / 100) := pk_div (d := 100) (by omega) (by decide) (by decide)
  have r1 : nI (x / 100) - nI (x / 100) / 100 * 100 = nI (x / 100 % 100) := pk_rem (d := 100) (by omega) (by decide) (by decide)
  have r2 : nI x - nI x / 100 * 100 = nI (x % 100) := pk_rem (d := 100) (by omega) (by decide) (by decide)
  split
  · exact ⟨x / 10000, by omega, d1⟩
  · split
    · exact ⟨x / 100 % 100, by omega, by rw [d2]; exact r1⟩
    · exact ⟨x % 100, by omega, r2⟩
theorem eq_tasted (h : Rel S σ τ) (hX : XInv S σ) {b : Nat} (hb : b < S 0 1) (k : Int32) : f_X1_tasted S σ b k = f_X10_tastesOf τ (nI b) k := by
  have hB := h.b.2 b hb
  have h24 := hX.nb.2
  have h8 := hX.nw.2
  have l1 := (hX.2.1 b hb).1
  have l2 := (hX.2.1 b hb).2
  unfold f_X1_tasted f_X10_tastesOf
  rw [nI_clamp (by omega), hB.1, hB.2.1, hB.2.2.1, eq_taste h l1 h8, eq_taste h l2 h8]
  by_cases c5 : τ.2.2 16 b = 5
  · obtain ⟨t, ht, e⟩ := taste_n h l2 h8 k
    have n9 : ∀ t, t < 100 → (if (0 : Int32) < nI t - 9 then nI t - 9 else 0) = if (9 : Int32) ≤ nI t then nI t - 9 else 0 := by decide +kernel
    simp only [e, n9 t ht]
  · simp only [if_neg c5]
theorem place_tab : ∀ j, j < 4 → ∀ p ∈ ([0, 1, 2] : List Int32), f_X0_place p (nI j) = 4 * p + nI j ∧ ¬ f_X0_place p (nI j) = -1 := by decide
theorem eq_bars (h : Rel S σ τ) (hM : MInv τ) (hX : XInv S σ) {b : Nat} (hb : b < S 0 1) {p : Int32} (hp : P3 p) : f_X0_bars S σ 0 b p = f_X10_bars τ (nI b) p := by
  have hB := h.b.2 b hb
  have h24 := hX.nb.2
  have h8 := hX.nw.2
  have l1 := (hX.2.1 b hb).1
  obtain ⟨j, hj, ej⟩ := vp_in_of (hM.shows (nI b) hp) (by decide)
  obtain ⟨t1, t2⟩ := place_tab j hj p (by rcases hp with rfl | rfl | rfl <;> simp)
  unfold f_X0_bars f_X10_bars
  rw [hB.2.2.2 p hp, ej, if_neg t2, t1, nI_clamp (show b < 2 ^ 31 by omega), hB.2.1, nI_clamp (show S 1 b < 2 ^ 31 by omega), (h.w.2 _ l1).2.1, h.k.1, h.k.2.1, f_in_32]
  generalize τ.2.2 7 (S 1 b) = y
  generalize τ.2.2 13 (4 * p + nI j).toNatClampNeg = f
  generalize τ.2.2 14 (4 * p + nI j).toNatClampNeg = t
  by_cases c1 : y < f
  · rw [if_pos c1, if_pos (show (if f ≤ y ∧ y ≤ t then (1 : Int32) else 0) = 0 from if_neg (fun z => Int32.not_le.mpr c1 z.1))]
  · rw [if_neg c1]
    by_cases c2 : y ≤ t
    · rw [if_pos c2, if_neg (show ¬ (if f ≤ y ∧ y ≤ t then (1 : Int32) else 0) = 0 from by rw [if_pos ⟨Int32.not_lt.mp c1, c2⟩]; decide)]
    · rw [if_neg c2, if_pos (show (if f ≤ y ∧ y ≤ t then (1 : Int32) else 0) = 0 from if_neg (fun z => c2 z.2))]
theorem z01 {c : Prop} [Decidable c] : ((if c then (1 : Int32) else 0) = 0) ↔ ¬ c := ⟨ite_eq, fun h => if_neg h⟩
theorem bars_01 (σ : MSt) (b p : Int32) : f_X10_bars σ b p = 0 ∨ f_X10_bars σ b p = 1 := by
  unfold f_X10_bars
  split
  · exact Or.inr rfl
  · exact Or.inl rfl
theorem eq_barBits (h : Rel S σ τ) (hM : MInv τ) (hX : XInv S σ) {b : Nat} (hb : b < S 0 1) : f_X9_barBits S σ b = f_X10_barsOf τ (nI b) := by
  have e0 := eq_bars h hM hX hb P3.a
  have e1 := eq_bars h hM hX hb P3.b
  have e2 := eq_bars h hM hX hb P3.c
  unfold f_X9_barBits f_X10_barsOf
  rw [f_X9_barBits_L4, if_neg (by decide), e0]
  rw [show (0 : Int32) + 1 = 1 from rfl]
  simp only [f_X9_barBits_L4, show ¬ (3 : Int32) ≤ 1 from by decide, if_false, e1, show (1 : Int32) + 1 = 2 from rfl, show ¬ (3 : Int32) ≤ 2 from by decide, e2, show (2 : Int32) + 1 = 3 from rfl, show (3 : Int32) ≤ 3 from by decide, if_true]
  rcases bars_01 τ (nI b) 0 with q0 | q0 <;> rcases bars_01 τ (nI b) 1 with q1 | q1 <;> rcases bars_01 τ (nI b) 2 with q2 | q2 <;> rw [q0, q1, q2] <;> decide
theorem isOdd_01 (σ : MSt) (b p : Int32) : f_X10_isOdd σ b p = 0 ∨ f_X10_isOdd σ b p = 1 := by
  unfold f_X10_isOdd
  (repeat' split) <;> first | exact Or.inr rfl | exact Or.inl rfl
/-- a part's oddness in the class -/
theorem eq_odd (h : Rel S σ τ) (hM : MInv τ) (hX : XInv S σ) {b : Nat} (hb : b < S 0 1) {p : Int32} (hp : P3 p) {A B : Int32} : (if f_X9_partOf (σ.1 1 b 3) p = f_X9_partOf (σ.1 8 (S 1 b) 3) p then A else if f_X0_bars S σ 0 b p = 0 then B else A) = if f_X10_isOdd τ (nI b) p = 0 then A else B := by
  have hB := h.b.2 b hb
  have h24 := hX.nb.2
  have h8 := hX.nw.2
  have l1 := (hX.2.1 b hb).1
  rw [eq_bars h hM hX hb hp, hB.2.2.2 p hp, (h.w.2 _ l1).2.2.2.1]
  unfold f_X10_isOdd
  rw [nI_clamp (show b < 2 ^ 31 by omega), hB.2.1, nI_clamp (show S 1 b < 2 ^ 31 by omega)]
  by_cases c1 : f_X10_bars τ (nI b) p = 0
  · by_cases c2 : f_X10_showsOf τ (nI b) p = f_X9_partOf (τ.2.2 10 (S 1 b)) p
    · rw [if_pos c2]
      rw [eq_partOf] at c2
      simp [c1, c2]
    · rw [if_neg c2, if_pos c1]
      rw [eq_partOf] at c2
      simp [c1, c2]
  · simp [c1]
theorem eq_oddBits (h : Rel S σ τ) (hM : MInv τ) (hX : XInv S σ) {b : Nat} (hb : b < S 0 1) : f_X9_oddBits S σ b = f_X10_oddsOf τ (nI b) := by
  unfold f_X9_oddBits f_X10_oddsOf
  rw [f_X9_oddBits_L4, if_neg (by decide), eq_odd h hM hX hb P3.a]
  rw [show (0 : Int32) + 1 = 1 from rfl]
  have k1 : ∀ x n, f_X9_oddBits_L4 (n + 1) S σ b x 1 = if f_X10_isOdd τ (nI b) 1 = 0 then f_X9_oddBits_L4 n S σ b x 2 else f_X9_oddBits_L4 n S σ b (x ||| 2) 2 := fun x n => by
    rw [f_X9_oddBits_L4, if_neg (by decide), eq_odd h hM hX hb P3.b]; rfl
  have k2 : ∀ x n, f_X9_oddBits_L4 (n + 1) S σ b x 2 = if f_X10_isOdd τ (nI b) 2 = 0 then f_X9_oddBits_L4 n S σ b x 3 else f_X9_oddBits_L4 n S σ b (x ||| 4) 3 := fun x n => by
    rw [f_X9_oddBits_L4, if_neg (by decide), eq_odd h hM hX hb P3.c]; rfl
  have k3 : ∀ x n, f_X9_oddBits_L4 (n + 1) S σ b x 3 = x := fun x n => by
    rw [f_X9_oddBits_L4, if_pos (by decide)]
  simp only [k1, k2, k3]
  rcases isOdd_01 τ (nI b) 0 with q0 | q0 <;> rcases isOdd_01 τ (nI b) 1 with q1 | q1 <;> rcases isOdd_01 τ (nI b) 2 with q2 | q2 <;> rw [q0, q1, q2] <;> decide
theorem eq_isBarred (h : Rel S σ τ) (hM : MInv τ) (hX : XInv S σ) {b : Nat} (hb : b < S 0 1) : f_X9_isBarred S σ b = f_X10_isBarred τ (nI b) := by
  have hB := h.b.2 b hb
  have h24 := hX.nb.2
  have h8 := hX.nw.2
  have l1 := (hX.2.1 b hb).1
  unfold f_X9_isBarred f_X10_isBarred
  rw [eq_barBits h hM hX hb, (h.w.2 _ l1).2.2.1, nI_clamp (show b < 2 ^ 31 by omega), hB.2.1, nI_clamp (show S 1 b < 2 ^ 31 by omega)]
  by_cases c1 : f_X10_barsOf τ (nI b) = 0 <;> by_cases c2 : τ.2.2 8 (S 1 b) = 0 <;> simp [c1, c2]
set_option maxRecDepth 100000 in
theorem wt_tab : ∀ j, j < 6 → f_X9_weightOf (nI j) = f_X10_weightOf (nI j) := by decide +kernel
set_option maxRecDepth 100000 in
theorem kd_tab : ∀ j, j < 6 → (f_X9_isOfKind (nI j) 1 = 0 ↔ ¬ (nI j = 1 ∨ nI j = 3)) := by decide +kernel
set_option maxRecDepth 100000 in
theorem tk_tab : ∀ j, j < 6 → ∀ k, k < 6 → (f_X9_isOfKind (nI j) (nI k) = 0) = (f_X10_taken_L33 8 (fun _ => 0, 0, fun _ _ => 0) 0 (nI k) (nI j) = -13) := by decide +kernel
end EQ
