/-! mix, worst, left, owed, saw, tongue -/
section EQ3
variable {S : XSh} {σ : XSt} {τ : MSt}
theorem eq_mixL (h : Rel S σ τ) (hN : S 0 0 ≤ 8) {a b l : Nat} (ha : a < S 0 0) (hb : b < S 0 0) (hl : l < S 0 0) (w : Int32) : ∀ (n k : Nat) (best : Int32), k ≤ 11 → 11 - k < n → f_X9_mix_L71 n S σ (nI a) (nI b) (nI l) w a b l best (f_X10_farOf τ (nI a) (nI b) (nI l) best) (nI k) = f_X10_mix_L49 n τ (nI a) (nI b) (nI l) w best (nI k) := by
  intro n
  induction n with
  | zero => intro k best _ h; exact absurd h (Nat.not_lt_zero _)
  | succ n ih =>
    intro k best hk hn
    rw [f_X9_mix_L71, f_X10_mix_L49, eq_far h hN ha hb hl]
    by_cases c1 : k = 11
    · subst c1
      rw [if_pos (by decide : (10 : Int32) < nI 11), if_pos (by decide : (11 : Int32) ≤ nI 11)]
    · have n1 : ¬ (10 : Int32) < nI k := fun z => by have := (nI_ltI (a := 10) (by decide) (by omega)).mp z; omega
      have n2 : ¬ (11 : Int32) ≤ nI k := fun z => by have := (nI_leI (a := 11) (by decide) (by omega)).mp z; omega
      rw [if_neg n1, if_neg n2, nI_1]
      by_cases c2 : f_X10_farOf τ (nI a) (nI b) (nI l) best ≤ f_X10_farOf τ (nI a) (nI b) (nI l) (nI k)
      · rw [if_pos c2, if_pos c2]; exact ih (k + 1) best (by omega) (by omega)
      · rw [if_neg c2, if_neg c2]; exact ih (k + 1) (nI k) (by omega) (by omega)
theorem eq_mix (h : Rel S σ τ) (hX : XInv S σ) (p1 p2 p3 p4 : Int32) : f_X9_mix S σ p1 p2 p3 p4 = f_X10_mix τ p1 p2 p3 p4 := by
  have h8 := hX.nw.2
  unfold f_X9_mix f_X10_mix
  rw [in_bel p4 1 1 (by decide) rfl, show nI (1 + 1) = 2 from rfl]
  rcases eq_wine h hX p1 with ⟨a1, b1⟩ | ⟨a1, b1, i, hi, rfl⟩
  · rw [if_pos a1, if_pos b1]
    (repeat' split) <;> rfl
  · rw [a1, b1, if_neg n10, if_neg n10]
    rcases eq_wine h hX p2 with ⟨a2, b2⟩ | ⟨a2, b2, j, hj, rfl⟩
    · rw [if_pos a2, if_pos b2]
      (repeat' split) <;> rfl
    · rw [a2, b2, if_neg n10, if_neg n10]
      rcases eq_wine h hX p3 with ⟨a3, b3⟩ | ⟨a3, b3, k, hk, rfl⟩
      · rw [if_pos a3, if_pos b3]
        (repeat' split) <;> rfl
      · rw [a3, b3, if_neg n10, if_neg n10]
        by_cases c1 : nI i = nI j
        · rw [if_pos c1, if_pos c1]
        · rw [if_neg c1, if_neg c1]
          by_cases c2 : f_X9_isBelow p4 2 = 0
          · rw [if_pos c2, if_pos c2]
          · rw [if_neg c2, if_neg c2, nI_clamp (by omega), nI_clamp (by omega), nI_clamp (by omega), eq_far h h8 hi hj hk]
            exact eq_mixL h h8 hi hj hk p4 13 1 0 (by decide) (by decide)
theorem salesN (τ : MSt) (p : Int32) {s : Nat} (hs : τ.1 26 = nI s) (h40 : s ≤ 40) : ∀ n a k, a ≤ k → k ≤ 40 → ∃ r : Nat, r ≤ 40 ∧ f_X10_salesBy_L4 n τ p (nI a) (nI k) = nI r := by
  intro n
  induction n with
  | zero => intro a k _ _; exact ⟨0, by omega, rfl⟩
  | succ n ih =>
    intro a k ha hk
    rw [f_X10_salesBy_L4, hs]
    by_cases c : nI s ≤ nI k
    · rw [if_pos c]; exact ⟨a, by omega, rfl⟩
    · have hlt : k < s := by
        rcases Nat.lt_or_ge k s with q | q
        · exact q
        · exact absurd (nI_le q (by omega)) c
      rw [if_neg c, nI_1, nI_1, Int32.add_zero]
      split
      · exact ih (a + 1) (k + 1) (by omega) (by omega)
      · exact ih a (k + 1) (by omega) (by omega)
theorem sales_n (h : Rel S σ τ) (hX : XInv S σ) (p : Int32) : ∃ r : Nat, r ≤ 40 ∧ f_X10_salesBy τ p = nI r := by
  obtain ⟨s, hs, e⟩ := hX.ns
  exact salesN τ p (h.s.1.trans e) hs 42 0 0 (by omega) (by omega)
theorem eq_worstL (h : Rel S σ τ) (hM : MInv τ) (hX : XInv S σ) : ∀ (n k : Nat) (l1 l2 l3 : Int32), k ≤ 10 → 10 - k < n → (¬ l1 = -1 → l2 = f_X10_salesBy τ l1 ∧ l3 = f_X10_barredBy τ l1) → f_X9_worst_L9 n S σ l1 l2 l3 (nI k) = f_X10_worst_L4 n τ l1 (nI k) := by
  intro n
  induction n with
  | zero => intro k l1 l2 l3 _ h; exact absurd h (Nat.not_lt_zero _)
  | succ n ih =>
    intro k l1 l2 l3 hk hn hl
    rw [f_X9_worst_L9, f_X10_worst_L4, eq_sales h, eq_barredBy h hM hX]
    by_cases c1 : k = 10
    · subst c1
      rw [if_pos (by decide : (9 : Int32) < nI 10), if_pos (by decide : (10 : Int32) ≤ nI 10)]
    · obtain ⟨r, hr, er⟩ := sales_n h hX (nI k)
      have hct := ct_le0 (x := f_X10_salesBy τ (nI k)) (N := 40) (by decide) ⟨r, hr, er⟩
      have n1 : ¬ (9 : Int32) < nI k := fun z => by have := (nI_ltI (a := 9) (by decide) (by omega)).mp z; omega
      have n2 : ¬ (10 : Int32) ≤ nI k := fun z => by have := (nI_leI (a := 10) (by decide) (by omega)).mp z; omega
      rw [if_neg n1, if_neg n2, nI_1]
      have hkn : ¬ nI k = -1 := fun z => absurd (show nI k < 0 by rw [z]; decide) (nI_pos (by omega))
      have inew := ih (k + 1) (nI k) (f_X10_salesBy τ (nI k)) (f_X10_barredBy τ (nI k)) (by omega) (by omega) (fun _ => ⟨rfl, rfl⟩)
      have iold := ih (k + 1) l1 l2 l3 (by omega) (by omega) hl
      by_cases c2 : f_X10_salesBy τ (nI k) = 0
      · rw [if_pos (hct.mpr c2), if_pos c2]; exact iold
      · rw [if_neg (fun z => c2 (hct.mp z)), if_neg c2]
        by_cases c3 : l1 = -1
        · rw [if_pos c3, if_pos c3]; exact inew
        · obtain ⟨e1, e2⟩ := hl c3
          rw [if_neg c3, if_neg c3, inew, iold, e1, e2]
theorem eq_worst (h : Rel S σ τ) (hM : MInv τ) (hX : XInv S σ) : f_X9_worst S σ = f_X10_worst τ := by
  unfold f_X9_worst f_X10_worst
  exact eq_worstL h hM hX 12 0 (-1) 0 0 (by omega) (by omega) (fun z => absurd rfl z)
theorem soldN (τ : MSt) (p : Int32) {s : Nat} (hs : τ.1 20 = nI s) (h40 : s ≤ 24) : ∀ n a k, a ≤ k → k ≤ 24 → ∃ r : Nat, r ≤ 24 ∧ f_X10_soldOf_L4 n τ p (nI a) (nI k) = nI r := by
  intro n
  induction n with
  | zero => intro a k _ _; exact ⟨0, by omega, rfl⟩
  | succ n ih =>
    intro a k ha hk
    rw [f_X10_soldOf_L4, hs]
    by_cases c : nI s ≤ nI k
    · rw [if_pos c]; exact ⟨a, by omega, rfl⟩
    · have hlt : k < s := by
        rcases Nat.lt_or_ge k s with q | q
        · exact q
        · exact absurd (nI_le q (by omega)) c
      rw [if_neg c, nI_1, nI_1, Int32.add_zero]
      split
      · split
        · exact ih a (k + 1) (by omega) (by omega)
        · exact ih (a + 1) (k + 1) (by omega) (by omega)
      · exact ih a (k + 1) (by omega) (by omega)
theorem sold_n (h : Rel S σ τ) (hX : XInv S σ) (p : Int32) : ∃ r : Nat, r ≤ 24 ∧ f_X10_soldOf τ p = nI r :=
  soldN τ p h.b.1 hX.nb.2 26 0 0 (by omega) (by omega)
theorem sub_pos {a b : Nat} (ha : a < 100000) (hb : b < 100000) : (if (0 : Int32) < nI a - nI b then nI a - nI b else 0) = if nI a ≤ nI b then 0 else nI a - nI b := by
  by_cases c : a ≤ b
  · rw [if_pos (show nI a ≤ nI b from nI_le c (by omega))]
    have : ¬ (0 : Int32) < nI a - nI b := by
      rcases Nat.eq_or_lt_of_le c with e | e
      · rw [e, pk_sub (Nat.le_refl _), Nat.sub_self]; decide
      · exact fun z => absurd (Int32.lt_trans z (pk_sneg (by omega) e)) (by decide)
    rw [if_neg this]
  · rw [if_neg (fun z => c ((nI_leI (by omega) (by omega)).mp z)), pk_sub (by omega), if_pos (show (0 : Int32) < nI (a - b) from nI_lt (a := 0) (by omega) (by omega))]
theorem eq_left (h : Rel S σ τ) (hX : XInv S σ) (p1 p2 : Int32) : f_X9_left S σ p1 p2 = f_X10_left τ p1 p2 := by
  have h8 := hX.nw.2
  unfold f_X9_left f_X10_left f_X8_remaining
  rw [in_bel p2 2 2 (by decide) rfl, show nI (2 + 1) = 3 from rfl]
  rcases eq_wine h hX p1 with ⟨a1, b1⟩ | ⟨a1, b1, i, hi, rfl⟩
  · rw [if_pos a1, if_pos b1]
  · have hw := h.w.2 i hi
    obtain ⟨m, hm, em⟩ := hw.2.2.2.2.2.2.2.1
    obtain ⟨d, hd, ed⟩ := hw.2.2.2.2.2.2.2.2
    obtain ⟨s, hs, es⟩ := sold_n h hX (nI i)
    rw [a1, b1, if_neg n10, if_neg n10, nI_clamp (by omega), hw.2.2.1, hw.2.2.2.2.2.1, em, ed, sub_pos (by omega) (by omega), eq_soldOf h hX, es]
    have hr : ∃ r : Nat, r ≤ 999 ∧ (if nI m ≤ nI d then (0 : Int32) else nI m - nI d) = nI r := by
      by_cases c : m ≤ d
      · exact ⟨0, by omega, by rw [if_pos (nI_le c (by omega))]; rfl⟩
      · exact ⟨m - d, by omega, by rw [if_neg (fun z => c ((nI_leI (by omega) (by omega)).mp z)), pk_sub (by omega)]⟩
    by_cases c2 : f_X9_isBelow p2 3 = 0
    · rw [if_pos c2]
      have k0 : ∀ k, k < 3 → ¬ p2 = nI k := fun k hk e => by
        rw [e, f_below, if_pos ⟨Int32.not_lt.mp (nI_pos (by omega)), nI_lt (b := 3) hk (by decide)⟩] at c2
        exact absurd c2 (by decide)
      have j0 : ¬ p2 = 0 := k0 0 (by decide)
      have j1 : ¬ p2 = 1 := k0 1 (by decide)
      have j2 : ¬ p2 = 2 := k0 2 (by decide)
      rw [if_neg j0, if_neg j1, if_neg j2]
    · rw [if_neg c2]
      obtain ⟨k, hk, rfl⟩ := below_n (m := 3) (M := 3) rfl (by decide) c2
      obtain ⟨r, hr, er⟩ := hr
      have sp := sub_pos (a := s) (b := r) (by omega) (by omega)
      by_cases c3 : nI m ≤ nI d
      · rw [if_pos c3] at er
        simp only [if_pos c3]
        match k, hk with
        | 0, _ => rfl
        | 1, _ => rw [← er] at sp; exact sp
        | 2, _ => rfl
      · rw [if_neg c3] at er
        simp only [if_neg c3]
        match k, hk with
        | 0, _ => rfl
        | 1, _ => rw [← er] at sp; exact sp
        | 2, _ => rfl
theorem neg64 {k : Nat} (hk : k < 100000) : (-(nI k)).toInt64 = 0 - (nI k).toInt64 := by
  refine Int64.toInt_inj.mp ?_
  rw [← Int32.zero_sub, Int32.toInt_toInt64, show (0 : Int32) = nI 0 from rfl, pk_sub_toInt (by decide) (by omega), nI_l (by omega), show (0 : Int64) = lN 0 from rfl]
  rw [Int64.toInt_sub, pk_lT (by omega), pk_lT (by omega)]
  symm
  apply Int.bmod_eq_of_le <;> omega
theorem eq_owedL (h : Rel S σ τ) (hM : MInv τ) (hX : XInv S σ) (p : Int32) : ∀ n (c : Int64) i, Ct i 40 → f_X9_owed_L18 n S σ p c i = f_X10_owed_L16 n τ p c i := by
  intro n
  induction n with
  | zero => intro c i _; rfl
  | succ n ih =>
    intro c i hi
    rw [f_X9_owed_L18, f_X10_owed_L16, h.s.1, h.s.2.2.1, h.s.2.2.2.1, h.s.2.2.2.2.1]
    by_cases c1 : σ.1 3 0 5 ≤ i
    · rw [if_pos c1, if_pos c1]
    · have u := Ct.up (by decide) hX.ns hi c1
      have hlt : i.toNatClampNeg < (τ.1 26).toNatClampNeg := by
        obtain ⟨s, hs, es⟩ := hX.ns
        obtain ⟨k, hk, rfl⟩ := hi
        rw [h.s.1, es, nI_clamp (by omega), nI_clamp (by omega)]
        rw [es] at c1
        rcases Nat.lt_or_ge k s with q | q
        · exact q
        · exact absurd (nI_le q (by omega)) c1
      obtain ⟨-, -, hne, pr, hpr, epr⟩ := h.s.2.2.2.2.2.2 _ hlt
      rw [if_neg c1, if_neg c1, eq_brd h hM hX hi c1, epr]
      by_cases c2 : f_X10_isBarred τ (τ.2.2 21 i.toNatClampNeg) = 0
      · simp only [if_pos c2, ih _ _ u.2.1]
        (repeat' split) <;> rfl
      · simp only [if_neg c2]
        by_cases c3 : τ.2.2 22 i.toNatClampNeg = p
        · have c4 : ¬ τ.2.2 23 i.toNatClampNeg = p := fun z => hne (c3.trans z.symm)
          simp only [if_pos c3, if_neg c4, ih _ _ u.2.1]
          rw [neg64 (by omega)]
          congr 1
          rw [Int64.add_zero, Int64.zero_sub, Int64.sub_eq_add_neg]
        · simp only [if_neg c3]
          by_cases c4 : τ.2.2 23 i.toNatClampNeg = p
          · simp only [if_pos c4, ih _ _ u.2.1, Int64.sub_zero]
          · simp only [if_neg c4, ih _ _ u.2.1, Int64.sub_zero, Int64.add_zero]
theorem eq_owed (h : Rel S σ τ) (hM : MInv τ) (hX : XInv S σ) (p : Int32) : f_X9_owed S σ p = f_X10_owed τ p := by
  unfold f_X9_owed f_X10_owed f_X10_isHand
  rw [in_up p 9 9 rfl, eq_owedL h hM hX p _ _ _ (Ct.zero _)]
theorem saw_1 (τ : MSt) (l1 : Int32) : ∀ (n k : Nat), k ≤ 3 → 3 - k < n → f_X10_saw_L23 n τ l1 1 (nI k) = 1 := by
  intro n
  induction n with
  | zero => intro k _ h; exact absurd h (Nat.not_lt_zero _)
  | succ n ih =>
    intro k hk hn
    rw [f_X10_saw_L23, nI_1]
    by_cases c : k = 3
    · subst c; rw [if_pos (by decide : (3 : Int32) ≤ nI 3)]; rfl
    · rw [if_neg (fun z => by have := (nI_leI (a := 3) (by decide) (by omega)).mp z; omega), if_neg n10]
      exact ih (k + 1) (by omega) (by omega)
theorem eq_sawL (h : Rel S σ τ) (hM : MInv τ) (hX : XInv S σ) {b : Nat} (hb : b < S 0 1) (l1 : Int32) (e : τ.2.2 21 l1.toNatClampNeg = nI b) : ∀ (n k : Nat), k ≤ 3 → 3 - k < n → f_X9_saw_L33 n S σ l1 b (nI k) = f_X10_saw_L23 n τ l1 0 (nI k) := by
  intro n
  induction n with
  | zero => intro k _ h; exact absurd h (Nat.not_lt_zero _)
  | succ n ih =>
    intro k hk hn
    rw [f_X9_saw_L33, f_X10_saw_L23, nI_1]
    by_cases c : k = 3
    · subst c; rw [if_pos (by decide : (3 : Int32) ≤ nI 3), if_pos (by decide : (3 : Int32) ≤ nI 3), if_pos rfl]
    · have hp : P3 (nI k) := by
        have : k = 0 ∨ k = 1 ∨ k = 2 := by omega
        rcases this with rfl | rfl | rfl
        · exact P3.a
        · exact P3.b
        · exact P3.c
      have c3 : ¬ (3 : Int32) ≤ nI k := fun z => by have := (nI_leI (a := 3) (by decide) (by omega)).mp z; omega
      rw [if_neg c3, if_neg c3, if_pos rfl, e, eq_bars h hM hX hb hp, h.k.2.2, h.s.2.2.2.2.2.1, ih (k + 1) (by omega) (by omega), saw_1 τ l1 n (k + 1) (by omega) (by omega)]
theorem eq_saw (h : Rel S σ τ) (hM : MInv τ) (hX : XInv S σ) (p : Int32) : f_X9_saw S σ p = f_X10_saw τ p := by
  have h24 := hX.nb.2
  obtain ⟨s, hs, es⟩ := hX.ns
  unfold f_X9_saw f_X10_saw
  rw [h.s.1, es]
  rcases in_n p (n := s) (by omega) with ⟨q1, q2⟩ | ⟨q1, i, hi, rfl⟩
  · rw [if_pos q1]
    by_cases c : f_X9_isBelow p (nI s) = 0
    · rw [if_pos c]
    · exact absurd (below_n rfl (by omega) c) q2
  · have e : f_X9_isBelow (nI i) (nI s) = 1 := by
      rw [f_below, if_pos ⟨Int32.not_lt.mp (nI_pos (by omega)), nI_lt hi (by omega)⟩]
    obtain ⟨b, hb, eb⟩ := hX.sb (i := i) (by rw [es, nI_clamp (by omega)]; exact hi)
    rw [e, q1, if_neg n10, if_neg n10, nI_clamp (by omega), eb, nI_clamp (by omega)]
    exact eq_sawL h hM hX hb (nI i) (by rw [nI_clamp (by omega), ← h.s.2.1]; exact eb) 5 0 (by omega) (by omega)
theorem eq_tongue (h : Rel S σ τ) (p1 p2 : Int32) : f_X9_tongue S σ p1 p2 = f_X10_tongue τ p1 p2 := by
  unfold f_X9_tongue f_X9_tongueAt
  rw [show f_X9_isBelow p1 6 = f_X10_isTongue p1 from (in_bel p1 5 5 (by decide) rfl).symm]
  by_cases c1 : f_X10_isTongue p1 = 0
  · unfold f_X10_tongue
    rw [if_pos c1, if_pos c1]; rfl
  · rw [if_neg c1, if_neg n10]
    have c1' : ¬ f_X9_isBelow p1 6 = 0 := fun z => c1 ((in_bel p1 5 5 (by decide) rfl).trans z)
    obtain ⟨t, ht, rfl⟩ := below_n (m := 6) (M := 6) rfl (by decide) c1'
    have hg := h.g t ht
    rw [nI_clamp (by omega), hg.2.1, hg.2.2.1, hg.2.2.2.1, hg.2.2.2.2.1]
    by_cases k0 : p2 = 0
    · rw [if_pos k0, k0]
    · by_cases k1 : p2 = 1
      · rw [if_neg k0, if_pos k1, k1]
      · by_cases k2 : p2 = 2
        · rw [if_neg k0, if_neg k1, if_pos k2, k2]
        · by_cases k3 : p2 = 3
          · rw [if_neg k0, if_neg k1, if_neg k2, if_pos k3, k3]
          · rw [if_neg k0, if_neg k1, if_neg k2, if_neg k3]
            unfold f_X10_tongue
            rw [if_neg c1]
            have : f_X10_in p2.toInt64 0 3 = 0 := by
              rw [in_bel p2 3 3 (by decide) rfl]
              by_cases q : f_X9_isBelow p2 (nI (3 + 1)) = 0
              · exact q
              · obtain ⟨k, hk, rfl⟩ := below_n (m := nI (3 + 1)) (M := 4) rfl (by decide) q
                match k, hk with
                | 0, _ => exact absurd rfl k0
                | 1, _ => exact absurd rfl k1
                | 2, _ => exact absurd rfl k2
                | 3, _ => exact absurd rfl k3
            rw [if_pos this]
end EQ3
