/-! falls -/
theorem i_ao (a b c : Int32) : (a ||| b) &&& c = (a &&& c) ||| (b &&& c) := Int32.toBitVec_inj.1 (by
  rw [Int32.toBitVec_and, Int32.toBitVec_or, Int32.toBitVec_or, Int32.toBitVec_and, Int32.toBitVec_and]
  ext i hi
  simp [Bool.and_or_distrib_right])
theorem i_abs (a b : Int32) : (a &&& b) ||| b = b := Int32.toBitVec_inj.1 (by
  rw [Int32.toBitVec_or, Int32.toBitVec_and]
  ext i hi
  simp)
theorem bt_t1 : ∀ k, k < 24 → (((1 : Int32) <<< (nI k &&& 31)) >>> (nI k &&& 31)) &&& 1 = 1 := by decide +kernel
theorem bt_t2 : ∀ k, k < 24 → ∀ j, j < 24 → j ≠ k → (((1 : Int32) <<< (nI j &&& 31)) >>> (nI k &&& 31)) &&& 1 = 0 := by decide +kernel
theorem bt_same (t : Int32) {k : Nat} (hk : k < 24) : ((t ||| ((1 : Int32) <<< (nI k &&& 31))) >>> (nI k &&& 31)) &&& 1 = 1 := by
  have := i_abs (t >>> (nI k &&& 31)) 1
  rw [Int32.shiftRight_or, i_ao, bt_t1 k hk, this]
theorem bt_diff (t : Int32) {k j : Nat} (hk : k < 24) (hj : j < 24) (h : j ≠ k) : ((t ||| ((1 : Int32) <<< (nI j &&& 31))) >>> (nI k &&& 31)) &&& 1 = (t >>> (nI k &&& 31)) &&& 1 := by
  rw [Int32.shiftRight_or, i_ao, bt_t2 k hk j hj h, Int32.or_zero]
section EQF
variable {S : XSh} {σ : XSt} {τ : MSt}
theorem eq_handsL (h : Rel S σ τ) (p : Int32) : ∀ (n : Nat) (a i : Int32), f_X3_handsOf_L4 n S σ p a i = f_X10_handsOf_L4 n τ p a i
  | 0, _, _ => rfl
  | n + 1, a, i => by
    have ih := eq_handsL h p n
    rw [f_X3_handsOf_L4, f_X10_handsOf_L4, ← h.s.1, h.s.2.1, h.s.2.2.1, h.s.2.2.2.1, Int32.or_zero, ih, ih]
theorem eq_hands (h : Rel S σ τ) (p : Int32) : f_X3_handsOf S σ p = f_X10_handsOf τ p := by
  unfold f_X3_handsOf f_X10_handsOf
  exact eq_handsL h p _ _ _
theorem eq_touchL (h : Rel S σ τ) (hX : XInv S σ) {k : Nat} (hk : k < 24) (hd : Int32) {s : Nat} (hs : s ≤ 40) (es : σ.1 3 0 5 = nI s) : ∀ (n m : Nat) (t a : Int32), m ≤ s → s - m < n → ((t >>> (nI k &&& 31)) &&& 1 = 1 ↔ ¬ a &&& hd = 0) → ((f_X3_bottlesOf_L4 n S σ hd t (nI m) >>> (nI k &&& 31)) &&& 1 = 1 ↔ ¬ f_X10_handsOf_L4 n τ (nI k) a (nI m) &&& hd = 0) := by
  intro n
  induction n with
  | zero => intro m t a _ z; exact absurd z (Nat.not_lt_zero _)
  | succ n ih =>
    intro m t a hm hn hI
    rw [f_X3_bottlesOf_L4, f_X10_handsOf_L4, h.s.1, es]
    by_cases c : m = s
    · subst c
      rw [if_pos (Int32.le_refl _), if_pos (Int32.le_refl _)]
      exact hI
    · have c1 : ¬ nI s ≤ nI m := fun z => by have := (nI_leI (by omega) (by omega)).mp z; omega
      obtain ⟨b, hb, eb⟩ := hX.sb (i := m) (by rw [es, nI_clamp (by omega)]; omega)
      have h24 := hX.nb.2
      rw [if_neg c1, if_neg c1, nI_clamp (show m < 2 ^ 31 by omega), ← h.s.2.1, ← h.s.2.2.1, ← h.s.2.2.2.1, eb, nI_1, Int32.or_zero]
      generalize ((1 : Int32) <<< (σ.2 24 0 m &&& 31) ||| (1 : Int32) <<< (σ.2 25 0 m &&& 31)) = M
      by_cases e : b = k
      · subst e
        rw [if_pos rfl]
        by_cases z : hd &&& M = 0
        · rw [if_pos z]
          refine ih (m + 1) _ _ (by omega) (by omega) ?_
          rw [i_ao, Int32.and_comm M hd, z, Int32.or_zero]
          exact hI
        · rw [if_neg z]
          refine ih (m + 1) _ _ (by omega) (by omega) ?_
          rw [bt_same t hk, i_ao, Int32.and_comm M hd]
          exact ⟨fun _ q => z (Int32.or_eq_zero_iff.mp q).2, fun _ => rfl⟩
      · have ne : ¬ nI b = nI k := fun z => e (by
          have := congrArg Int32.toNatClampNeg z
          rw [nI_clamp (by omega), nI_clamp (by omega)] at this
          exact this)
        rw [if_neg ne]
        by_cases z : hd &&& M = 0
        · rw [if_pos z]
          exact ih (m + 1) _ _ (by omega) (by omega) hI
        · rw [if_neg z]
          refine ih (m + 1) _ _ (by omega) (by omega) ?_
          rw [bt_diff t hk (by omega) e]
          exact hI
theorem eq_touch (h : Rel S σ τ) (hX : XInv S σ) {k : Nat} (hk : k < 24) (hd : Int32) : ((f_X3_bottlesOf S σ hd >>> (nI k &&& 31)) &&& 1 = 1 ↔ ¬ f_X10_handsOf τ (nI k) &&& hd = 0) := by
  obtain ⟨s, hs, es⟩ := hX.ns
  unfold f_X3_bottlesOf f_X10_handsOf
  refine eq_touchL h hX hk hd hs es 42 0 0 0 (by omega) (by omega) ?_
  rw [Int32.zero_and, Int32.zero_shiftRight, Int32.zero_and]
  exact ⟨fun z => absurd z (by decide), fun z => absurd rfl z⟩
theorem eq_fallsL (h : Rel S σ τ) (hM : MInv τ) (hX : XInv S σ) {b : Nat} (hb : b < S 0 1) (hd l1 l2 : Int32) : ∀ (n k : Nat) (σ' : XSt), XSm σ σ' → k ≤ S 0 1 → S 0 1 - k < n → (f_X9_falls_L46 n S σ' l1 l2 b (f_X3_bottlesOf S σ hd) (flN τ (nI b) hd k) (nI k)).1 = flN τ (nI b) hd (S 0 1) * l2.toInt64 / 100 := by
  have h24 := hX.nb.2
  have h8 := hX.nw.2
  intro n
  induction n with
  | zero => intro k σ' _ _ z; exact absurd z (Nat.not_lt_zero _)
  | succ n ih =>
    intro k σ' hs hk hn
    rw [f_X9_falls_L46, hs.1, hX.nb.1]
    by_cases c : k = S 0 1
    · rw [c, if_pos (Int32.le_refl _)]
    · have c1 : ¬ nI (S 0 1) ≤ nI k := fun z => by have := (nI_leI (by omega) (by omega)).mp z; omega
      have kb : k < S 0 1 := by omega
      have l1k := (hX.2.1 k kb).1
      have l1b := (hX.2.1 b hb).1
      have hq := h.q hs.q
      have hXq := hX.sm hs
      rw [if_neg c1, nI_clamp (show k < 2 ^ 31 by omega), (h.w.2 _ l1k).1, (h.w.2 _ l1b).1, ← (h.b.2 k kb).2.1, ← (h.b.2 b hb).2.1, nI_1, eq_isBarred hq hM hXq kb, (eq_judged hq hM hXq kb).2.1]
      have ht := eq_touch h hX (show k < 24 by omega) hd
      have ih1 := ih (k + 1) σ' hs (by omega) (by omega)
      have ih2 := ih (k + 1) _ (hs.tr (XSm.jd S σ' k 1)) (by omega) (by omega)
      rw [flN, nI_clamp (show b < 2 ^ 31 by omega)] at ih1 ih2
      by_cases z : f_X10_isBarred τ (nI k) = 0
      · by_cases e : τ.2.2 17 k = τ.2.2 17 b
        · rw [if_pos e, if_pos z]
          rw [if_pos ⟨Or.inl e, z⟩] at ih2
          exact ih2
        · rw [if_neg e]
          by_cases t : (f_X3_bottlesOf S σ hd >>> (nI k &&& 31)) &&& 1 = 1
          · rw [if_pos t, if_pos z]
            rw [if_pos ⟨Or.inr (ht.mp t), z⟩] at ih2
            exact ih2
          · rw [if_neg t]
            rw [if_neg (fun q => q.1.elim e (fun y => t (ht.mpr y))), Int64.add_zero] at ih1
            exact ih1
      · rw [if_neg (fun q => z q.2), Int64.add_zero] at ih1
        rw [if_neg z]
        by_cases e : τ.2.2 17 k = τ.2.2 17 b
        · rw [if_pos e]; exact ih1
        · rw [if_neg e]
          by_cases t : (f_X3_bottlesOf S σ hd >>> (nI k &&& 31)) &&& 1 = 1
          · rw [if_pos t]; exact ih1
          · rw [if_neg t]; exact ih1
theorem eq_falls (h : Rel S σ τ) (hM : MInv τ) (hX : XInv S σ) (p1 p2 : Int32) : (f_X9_falls S σ p1 p2).1 = fFalls τ p1 p2 := by
  have h24 := hX.nb.2
  unfold f_X9_falls fFalls
  rcases eq_bottle h hX p1 with ⟨q1, q2⟩ | ⟨q1, q2, b, hb, rfl⟩
  · rw [if_pos q1, if_pos q2]
  · rw [q1, q2, if_neg n10, if_neg n10, in_up p2 100 100 rfl]
    by_cases c : f_X9_isUpTo p2 100 = 0
    · rw [if_pos c, if_pos c]
    · rw [if_neg c, if_neg c, eq_hands h, nI_clamp (show b < 2 ^ 31 by omega), h.b.1, nI_clamp (show S 0 1 < 2 ^ 31 by omega)]
      exact eq_fallsL h hM hX hb _ _ _ 26 0 σ (XSm.rf σ) (by omega) (by omega)
end EQF
