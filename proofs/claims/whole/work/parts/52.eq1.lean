/-! what the calls answer: those that only read -/
theorem n10 : ¬ (1 : Int32) = 0 := by decide
section EQ2
variable {S : XSh} {σ : XSt} {τ : MSt}
theorem P3.of {p : Int32} (c1 : ¬ f_X9_isBelow p 6 = 0) (c2 : ¬ (3 : Int32) ≤ p) : P3 p := by
  obtain ⟨k, hk, rfl⟩ := below_n (m := 6) (M := 6) rfl (by decide) c1
  have : k < 3 := by
    rcases Nat.lt_or_ge k 3 with q | q
    · exact q
    · exact absurd (nI_le (a := 3) q (by omega)) c2
  match k, this with
  | 0, _ => exact P3.a
  | 1, _ => exact P3.b
  | 2, _ => exact P3.c
theorem eq_shows (h : Rel S σ τ) (hX : XInv S σ) (p1 p2 : Int32) : f_X9_shows S σ p1 p2 = f_X10_shows τ p1 p2 := by
  have h24 := hX.nb.2
  unfold f_X9_shows f_X10_shows
  rw [in_bel p2 5 5 (by decide) rfl, show nI (5 + 1) = 6 from rfl]
  rcases eq_bottle h hX p1 with ⟨a, b⟩ | ⟨a, b, i, hi, rfl⟩
  · rw [if_pos a, if_pos b]
  · rw [a, b, if_neg n10, if_neg n10]
    by_cases c1 : f_X9_isBelow p2 6 = 0
    · rw [if_pos c1, if_pos c1]
    · rw [if_neg c1, if_neg c1]
      by_cases c2 : (3 : Int32) ≤ p2
      · rw [if_pos c2, if_pos c2, nI_clamp (by omega), eq_tasted h hX hi]
      · rw [if_neg c2, if_neg c2, nI_clamp (by omega)]
        exact (h.b.2 i hi).2.2.2 p2 (P3.of c1 c2)
theorem eq_salesL (h : Rel S σ τ) (p : Int32) : ∀ n c i, f_X9_soldBy_L5 n S σ p 0 c i = f_X10_salesBy_L4 n τ p c i := by
  intro n
  induction n with
  | zero => intro c i; rfl
  | succ n ih =>
    intro c i
    rw [f_X9_soldBy_L5, f_X10_salesBy_L4, h.s.1, h.s.2.2.1]
    simp only [if_true, Int32.add_zero, ih]
theorem eq_sales (h : Rel S σ τ) (p : Int32) : f_X9_soldBy S σ p 0 = f_X10_salesBy τ p := by
  unfold f_X9_soldBy f_X10_salesBy
  exact eq_salesL h p _ _ _
theorem eq_brd (h : Rel S σ τ) (hM : MInv τ) (hX : XInv S σ) {i : Int32} (hi : Ct i 40) (c : ¬ σ.1 3 0 5 ≤ i) : f_X9_isBarred S σ (σ.2 23 0 i.toNatClampNeg).toNatClampNeg = f_X10_isBarred τ (τ.2.2 21 i.toNatClampNeg) := by
  obtain ⟨b, hb, e⟩ := hX.sbn hi c
  have h24 := hX.nb.2
  rw [← h.s.2.1, e, nI_clamp (by omega)]
  exact eq_isBarred h hM hX hb
theorem eq_barredL (h : Rel S σ τ) (hM : MInv τ) (hX : XInv S σ) (p : Int32) : ∀ n c i, Ct i 40 → f_X9_soldBy_L5 n S σ p 1 c i = f_X10_barredBy_L4 n τ p c i := by
  intro n
  induction n with
  | zero => intro c i _; rfl
  | succ n ih =>
    intro c i hi
    rw [f_X9_soldBy_L5, f_X10_barredBy_L4, h.s.1, h.s.2.2.1]
    by_cases c1 : σ.1 3 0 5 ≤ i
    · rw [if_pos c1, if_pos c1]
    · have hi1 := (Ct.up (by decide) hX.ns hi c1).2.1
      rw [if_neg c1, if_neg c1, eq_brd h hM hX hi c1, if_neg (by decide : ¬ (1 : Int32) = 0)]
      simp only [Int32.add_zero, ih _ _ hi1]
theorem eq_barredBy (h : Rel S σ τ) (hM : MInv τ) (hX : XInv S σ) (p : Int32) : f_X9_soldBy S σ p 1 = f_X10_barredBy τ p := by
  unfold f_X9_soldBy f_X10_barredBy
  exact eq_barredL h hM hX p _ _ _ (Ct.zero _)
theorem eq_source (h : Rel S σ τ) (hM : MInv τ) (hX : XInv S σ) (p1 p2 : Int32) : f_X9_source S σ p1 p2 = f_X10_source τ p1 p2 := by
  unfold f_X9_source f_X10_source f_X10_isHand
  rw [in_bel p2 1 1 (by decide) rfl, show nI (1 + 1) = 2 from rfl, in_up p1 9 9 rfl, eq_sales h, eq_barredBy h hM hX]
  by_cases c1 : f_X9_isUpTo p1 9 = 0
  · rw [if_pos c1, if_pos c1]
  · rw [if_neg c1, if_neg c1]
    by_cases c2 : f_X9_isBelow p2 2 = 0
    · rw [if_pos c2, if_pos c2]
    · rw [if_neg c2, if_neg c2]
      obtain ⟨k, hk, rfl⟩ := below_n (m := 2) (M := 2) rfl (by decide) c2
      match k, hk with
      | 0, _ => rfl
      | 1, _ => rfl
theorem ct_le0 {x : Int32} {N : Nat} (hN : N < 1000000) (h : Ct x N) : x ≤ 0 ↔ x = 0 := by
  obtain ⟨k, hk, rfl⟩ := h
  constructor
  · intro z
    have : k ≤ 0 := (nI_leI (b := 0) (by omega) (by decide)).mp z
    rw [show k = 0 by omega]; rfl
  · intro z; rw [z]; exact Int32.le_refl _
theorem eq_soldL (h : Rel S σ τ) (hX : XInv S σ) (w : Int32) : ∀ n c i, Ct i 24 → f_X9_soldOf_L4 n S σ w c i = f_X10_soldOf_L4 n τ w c i := by
  intro n
  induction n with
  | zero => intro c i _; rfl
  | succ n ih =>
    intro c i hi
    rw [f_X9_soldOf_L4, f_X10_soldOf_L4, h.b.1, hX.nb.1]
    by_cases c1 : nI (S 0 1) ≤ i
    · rw [if_pos c1, if_pos c1]
    · obtain ⟨u1, u2, u3, u4⟩ := hX.bUp hi (by rw [hX.nb.1]; exact c1)
      obtain ⟨k, hk, rfl⟩ := id hi
      rw [nI_clamp (by omega)] at u1 ⊢
      have hd := h.d k u1
      rw [if_neg c1, if_neg c1, (h.w.2 _ (hX.2.1 k u1).1).1, ← (h.b.2 k u1).2.1]
      simp only [Int32.add_zero, ih _ _ u3, ct_le0 (by decide) hd.2.2.2.2.1, hd.2.2.2.2.2.1]
theorem eq_soldOf (h : Rel S σ τ) (hX : XInv S σ) (w : Int32) : f_X9_soldOf S σ w = f_X10_soldOf τ w := by
  unfold f_X9_soldOf f_X10_soldOf
  exact eq_soldL h hX w _ _ _ (Ct.zero _)
theorem eq_cbarL (h : Rel S σ τ) (hM : MInv τ) (hX : XInv S σ) (w : Int32) : ∀ n c i, Ct i 24 → f_X9_barredBottles_L4 n S σ c i = f_X10_count_L80 n τ w c i := by
  intro n
  induction n with
  | zero => intro c i _; rfl
  | succ n ih =>
    intro c i hi
    rw [f_X9_barredBottles_L4, f_X10_count_L80, h.b.1, hX.nb.1]
    by_cases c1 : nI (S 0 1) ≤ i
    · rw [if_pos c1, if_pos c1]
    · obtain ⟨u1, u2, u3, u4⟩ := hX.bUp hi (by rw [hX.nb.1]; exact c1)
      obtain ⟨k, hk, rfl⟩ := id hi
      rw [nI_clamp (by omega)] at u1 ⊢
      rw [if_neg c1, if_neg c1, eq_isBarred h hM hX u1]
      simp only [Int32.add_zero, ih _ _ u3]
theorem eq_csoldL (h : Rel S σ τ) (hX : XInv S σ) (w : Int32) : ∀ n c i, Ct i 24 → f_X9_soldBottles_L4 n S σ c i = f_X10_count_L114 n τ w c i := by
  intro n
  induction n with
  | zero => intro c i _; rfl
  | succ n ih =>
    intro c i hi
    rw [f_X9_soldBottles_L4, f_X10_count_L114, h.b.1, hX.nb.1]
    by_cases c1 : nI (S 0 1) ≤ i
    · rw [if_pos c1, if_pos c1]
    · obtain ⟨u1, u2, u3, u4⟩ := hX.bUp hi (by rw [hX.nb.1]; exact c1)
      obtain ⟨k, hk, rfl⟩ := id hi
      rw [nI_clamp (by omega)] at u1 ⊢
      have hd := h.d k u1
      rw [if_neg c1, if_neg c1]
      simp only [Int32.add_zero, ih _ _ u3, ct_le0 (by decide) hd.2.2.2.2.1, hd.2.2.2.2.2.1]
theorem eq_count (h : Rel S σ τ) (hM : MInv τ) (hX : XInv S σ) (p : Int32) : f_X9_count S σ p = f_X10_count τ p := by
  unfold f_X9_count f_X10_count f_X9_barredBottles f_X9_soldBottles
  rw [h.w.1, h.b.1, h.s.1, h.r.1, h.t.1, h.r.2.1, hX.nw.1, hX.nb.1, hX.nr.1, eq_cbarL h hM hX p _ _ _ (Ct.zero _), eq_csoldL h hX p _ _ _ (Ct.zero _)]
theorem eq_chain (h : Rel S σ τ) (hX : XInv S σ) (p : Int32) : f_X9_chain S σ p = f_X10_chain τ p := by
  have h24 := hX.nb.2
  unfold f_X9_chain f_X10_chain
  rcases eq_bottle h hX p with ⟨a, b⟩ | ⟨a, b, i, hi, rfl⟩
  · rw [if_pos a, if_pos b]
  · rw [a, b, if_neg n10, if_neg n10, nI_clamp (by omega), (h.d i hi).2.2.1]
    rfl
set_option maxRecDepth 100000 in
theorem tk_tab2 : ∀ j, j < 6 → ∀ k, k < 6 → (f_X9_isOfKind (nI j) (nI k) = 0 ∧ ∀ x, x ∈ ([0, 7] : List Int32) → f_X10_taken_L33 8 (fun _ => 0, 0, fun _ _ => x) 0 (nI k) (nI j) = -13) ∨ (¬ f_X9_isOfKind (nI j) (nI k) = 0 ∧ ∀ x, x ∈ ([0, 7] : List Int32) → f_X10_taken_L33 8 (fun _ => 0, 0, fun _ _ => x) 0 (nI k) (nI j) = x) := by decide +kernel
theorem tkn_L (τ : MSt) (b : Int32) : ∀ (n : Nat) (k j : Int32), (∀ x : Int32, f_X10_taken_L33 n (fun _ => 0, 0, fun _ _ => x) 0 k j = f_X10_taken_L33 n (fun _ => 0, 0, fun _ _ => (0 : Int32)) 0 k j ∧ f_X10_taken_L33 n τ b k j = f_X10_taken_L33 n (fun _ => 0, 0, fun _ _ => (0 : Int32)) 0 k j) ∨ (∀ x : Int32, f_X10_taken_L33 n (fun _ => 0, 0, fun _ _ => x) 0 k j = x ∧ f_X10_taken_L33 n τ b k j = τ.2.2 18 b.toNatClampNeg) := by
  intro n
  induction n with
  | zero => intro k j; exact Or.inl (fun x => ⟨rfl, rfl⟩)
  | succ n ih =>
    intro k j
    by_cases c1 : j = -1
    · by_cases c2 : j = k
      · exact Or.inr (fun x => by rw [f_X10_taken_L33, f_X10_taken_L33, if_pos c1, if_pos c2, if_pos c1, if_pos c2]; exact ⟨rfl, rfl⟩)
      · exact Or.inl (fun x => by rw [f_X10_taken_L33, f_X10_taken_L33, f_X10_taken_L33, if_pos c1, if_neg c2, if_pos c1, if_neg c2, if_pos c1, if_neg c2]; exact ⟨rfl, rfl⟩)
    · by_cases c2 : j = k
      · exact Or.inr (fun x => by rw [f_X10_taken_L33, f_X10_taken_L33, if_neg c1, if_pos c2, if_pos c2, if_neg c1, if_pos c2, if_pos c2]; exact ⟨rfl, rfl⟩)
      · simp only [f_X10_taken_L33, if_neg c1, if_neg c2]; exact ih k (f_X10_over j)
theorem eq_taken (h : Rel S σ τ) (hM : MInv τ) (hX : XInv S σ) (p1 p2 : Int32) : f_X9_taken S σ p1 p2 = f_X10_taken τ p1 p2 := by
  have h24 := hX.nb.2
  unfold f_X9_taken f_X10_taken
  rw [in_up p2 5 5 rfl]
  by_cases c1 : f_X9_isUpTo p2 5 = 0
  · rw [if_pos c1, if_pos c1]
  · rw [if_neg c1, if_neg c1]
    obtain ⟨k, hk, rfl⟩ := upTo_n (m := 5) (M := 5) rfl (by decide) c1
    rcases eq_bottle h hX p1 with ⟨a, b⟩ | ⟨a, b, i, hi, rfl⟩
    · rw [if_pos a, if_pos b]
    · have hB := h.b.2 i hi
      obtain ⟨j, hj, ej⟩ := vp_in_of (hM.kind i) (by decide)
      rw [a, b, if_neg n10, if_neg n10, nI_clamp (by omega), hB.1, ej, (h.w.2 _ (hX.2.1 i hi).2).1, ← hB.2.2.1]
      have t := tk_tab2 j hj k (by omega)
      rcases tkn_L τ (nI i) 8 (nI k) (nI j) with q | q <;> rcases t with ⟨t1, t2⟩ | ⟨t1, t2⟩
      · rw [if_pos t1, (q 0).2]; exact (t2 0 (by simp)).symm
      · have := (q 7).1.symm.trans (t2 7 (by simp))
        rw [t2 0 (by simp)] at this
        exact absurd this (by decide)
      · have := (q 0).1.symm.trans (t2 0 (by simp))
        exact absurd this (by decide)
      · rw [if_neg t1, (q 0).2, nI_clamp (by omega)]
theorem eq_mixL1 (h : Rel S σ τ) (hN : S 0 0 ≤ 8) {a b l : Nat} (ha : a < S 0 0) (hb : b < S 0 0) (hl : l < S 0 0) (k : Int32) : ∀ n s i, f_X9_far_L6 n S σ a b k l s i = f_X10_farOf_L6 n τ (nI a) (nI b) (nI l) k s i := by
  intro n
  induction n with
  | zero => intro s i; rfl
  | succ n ih =>
    intro s i
    rw [f_X9_far_L6, f_X10_farOf_L6, eq_taste h ha hN, eq_taste h hb hN, eq_taste h hl hN]
    by_cases c1 : (3 : Int32) ≤ i
    · rw [if_pos c1, if_pos c1]
    · rw [if_neg c1, if_neg c1]
      generalize (k * f_X10_tasteOf τ (nI a) i + (10 - k) * f_X10_tasteOf τ (nI b) i) / 10 - f_X10_tasteOf τ (nI l) i = d
      by_cases c2 : 0 ≤ d
      · rw [if_pos c2, if_pos c2, ih]
      · rw [if_neg c2, if_neg c2, ih, Int32.zero_sub]
theorem eq_far (h : Rel S σ τ) (hN : S 0 0 ≤ 8) {a b l : Nat} (ha : a < S 0 0) (hb : b < S 0 0) (hl : l < S 0 0) (k : Int32) : f_X9_far S σ a b k l = f_X10_farOf τ (nI a) (nI b) (nI l) k := by
  unfold f_X9_far f_X10_farOf
  exact eq_mixL1 h hN ha hb hl k _ _ _
end EQ2
