/-! opened, alike -/
def sumB (f : Nat → Int32) : Nat → Int32
  | 0 => 0
  | k + 1 => sumB f k + f k
theorem sumL17 {S : XSh} {σ : XSt} {on : Nat} (ho : on < 10) : ∀ n k, k ≤ on → on - k < n → f_X9_sumBelow_17_L4 n S σ (nI on) (sumB (σ.2 17 0) k) (nI k) = sumB (σ.2 17 0) on := by
  intro n
  induction n with
  | zero => intro k _ h; exact absurd h (Nat.not_lt_zero _)
  | succ n ih =>
    intro k hk hn
    rw [f_X9_sumBelow_17_L4]
    by_cases c : k = on
    · subst c
      rw [if_pos (Int32.le_refl _)]
    · have c1 : ¬ nI on ≤ nI k := fun q => by have := (nI_leI (by omega) (by omega)).mp q; omega
      have c2 : ¬ (10 : Int32) ≤ nI k := fun q => by have := (nI_leI (a := 10) (by decide) (by omega)).mp q; omega
      rw [if_neg c1, if_neg c2, nI_clamp (show k < 2 ^ 31 by omega), nI_1]
      exact ih (k + 1) (by omega) (by omega)
theorem sumL18 {S : XSh} {σ : XSt} {on : Nat} (ho : on < 10) : ∀ n k, k ≤ on → on - k < n → f_X9_sumBelow_18_L4 n S σ (nI on) (sumB (σ.2 18 0) k) (nI k) = sumB (σ.2 18 0) on := by
  intro n
  induction n with
  | zero => intro k _ h; exact absurd h (Nat.not_lt_zero _)
  | succ n ih =>
    intro k hk hn
    rw [f_X9_sumBelow_18_L4]
    by_cases c : k = on
    · subst c
      rw [if_pos (Int32.le_refl _)]
    · have c1 : ¬ nI on ≤ nI k := fun q => by have := (nI_leI (by omega) (by omega)).mp q; omega
      have c2 : ¬ (10 : Int32) ≤ nI k := fun q => by have := (nI_leI (a := 10) (by decide) (by omega)).mp q; omega
      rw [if_neg c1, if_neg c2, nI_clamp (show k < 2 ^ 31 by omega), nI_1]
      exact ih (k + 1) (by omega) (by omega)
theorem sum17 {S : XSh} {σ : XSt} {on : Nat} (ho : on < 10) : f_X9_sumBelow_17 S σ (nI on) = sumB (σ.2 17 0) on := sumL17 ho 12 0 (Nat.zero_le _) (by omega)
theorem sum18 {S : XSh} {σ : XSt} {on : Nat} (ho : on < 10) : f_X9_sumBelow_18 S σ (nI on) = sumB (σ.2 18 0) on := sumL18 ho 12 0 (Nat.zero_le _) (by omega)
/-- a set's bit -/
abbrev bt (s i : Nat) : Int32 := (nI s >>> (nI i &&& 31)) &&& (1 : Int32)
def lbN (s : Nat) : Nat := (f_X9_lowestBit (nI s)).toNatClampNeg
abbrev LbP (s : Nat) : Prop := f_X9_lowestBit (nI (s + 1)) = nI (lbN (s + 1)) ∧ lbN (s + 1) < 10 ∧ 2 ^ lbN (s + 1) ≤ s + 1 ∧ ∀ i, i < 10 → (i < lbN (s + 1) → ¬ bt (s + 1) i = 1 ∧ bt s i = 1) ∧ (i = lbN (s + 1) → bt (s + 1) i = 1 ∧ ¬ bt s i = 1) ∧ (lbN (s + 1) < i → bt (s + 1) i = bt s i)
def lbC (s l i : Nat) : Bool := if i < l then decide (¬ bt (s + 1) i = 1) && decide (bt s i = 1) else if i = l then decide (bt (s + 1) i = 1) && decide (¬ bt s i = 1) else decide (bt (s + 1) i = bt s i)
def lbB (s l : Nat) : Bool := decide (f_X9_lowestBit (nI (s + 1)) = nI l) && (decide (l < 10) && (decide (2 ^ l ≤ s + 1) && (List.range 10).all (fun i => lbC s l i)))
set_option maxRecDepth 100000 in
theorem lb_tab0 : ∀ a, a < 16 → ∀ b, b < 64 → (64 * a + b < 1023 → lbB (64 * a + b) (lbN (64 * a + b + 1)) = true) := by decide +kernel
theorem lb_tab (s : Nat) (h : s < 1023) : LbP s := by
  have e : 64 * (s / 64) + s % 64 = s := by omega
  have t := lb_tab0 (s / 64) (by omega) (s % 64) (by omega) (by omega)
  rw [e] at t
  unfold lbB at t
  rw [Bool.and_eq_true, Bool.and_eq_true, Bool.and_eq_true, decide_eq_true_eq, decide_eq_true_eq, decide_eq_true_eq, List.all_eq_true] at t
  obtain ⟨t1, t2, t3, t4⟩ := t
  refine ⟨t1, t2, t3, fun i hi => ?_⟩
  have u := t4 i (List.mem_range.mpr hi)
  unfold lbC at u
  refine ⟨fun q => ?_, fun q => ?_, fun q => ?_⟩
  · rw [if_pos q, Bool.and_eq_true, decide_eq_true_eq, decide_eq_true_eq] at u
    exact u
  · rw [if_neg (show ¬ i < lbN (s + 1) by omega), if_pos q, Bool.and_eq_true, decide_eq_true_eq, decide_eq_true_eq] at u
    exact u
  · rw [if_neg (show ¬ i < lbN (s + 1) by omega), if_neg (show ¬ i = lbN (s + 1) by omega), decide_eq_true_eq] at u
    exact u
theorem bt_0 : ∀ i, i < 10 → ¬ bt 0 i = 1 := by decide +kernel
theorem sbN_0 (f : Nat → Int32) : ∀ k, k ≤ 10 → sbN 0 f k = 0
  | 0, _ => rfl
  | k + 1, h => by rw [sbN, if_neg (bt_0 k (by omega)), sbN_0 f k (by omega)]; rfl
theorem sb_up {s : Nat} (hs : s < 1023) (f : Nat → Int32) : ∀ k, k ≤ 10 → (k ≤ lbN (s + 1) → sbN (s + 1) f k + sumB f k = sbN s f k) ∧ (lbN (s + 1) < k → sbN (s + 1) f k + sumB f (lbN (s + 1)) = sbN s f k + f (lbN (s + 1)))
  | 0, _ => ⟨fun _ => rfl, fun h => absurd h (Nat.not_lt_zero _)⟩
  | k + 1, h => by
    obtain ⟨i1, i2⟩ := sb_up hs f k (by omega)
    obtain ⟨_, _, _, t⟩ := lb_tab s hs
    obtain ⟨k1, k2, k3⟩ := t k (by omega)
    by_cases c : k < lbN (s + 1)
    · obtain ⟨u, v⟩ := k1 c
      refine ⟨fun _ => ?_, fun z => by omega⟩
      rw [sbN, sbN, sumB, if_neg u, if_pos v, Int32.add_zero, ← Int32.add_assoc, i1 (by omega)]
    · refine ⟨fun z => by omega, fun _ => ?_⟩
      by_cases e : k = lbN (s + 1)
      · obtain ⟨u, v⟩ := k2 e
        have i := i1 (by omega)
        rw [sbN, sbN, if_pos u, if_neg v, Int32.add_zero, ← e, Int32.add_assoc, Int32.add_comm (f k), ← Int32.add_assoc, i]
      · have u := k3 (by omega)
        have i := i2 (by omega)
        have w : sbN (s + 1) f (k + 1) = sbN (s + 1) f k + (if bt s k = 1 then f k else 0) := by
          rw [← u]; rfl
        have w' : sbN s f (k + 1) = sbN s f k + (if bt s k = 1 then f k else 0) := rfl
        rw [w, w']
        generalize (if bt s k = 1 then f k else 0) = y
        rw [Int32.add_assoc, Int32.add_comm y, ← Int32.add_assoc, i, Int32.add_assoc, Int32.add_comm (f (lbN (s + 1))), ← Int32.add_assoc]
theorem sub_up {x b y a : Int32} (h : x + b = y + a) : y + (a - b) = x := by
  rw [Int32.sub_eq_add_neg, ← Int32.add_assoc, ← h, Int32.add_assoc, Int32.add_right_neg, Int32.add_zero]
/-- a set more: its sum out of the one before -/
theorem sb_next {s m : Nat} (hm : m ≤ 10) (h1 : s + 1 < 2 ^ m) (f : Nat → Int32) : sbN s f m + (f (lbN (s + 1)) - sumB f (lbN (s + 1))) = sbN (s + 1) f m := by
  have p : 2 ^ m ≤ 2 ^ 10 := Nat.pow_le_pow_right (by decide) hm
  have hs : s < 1023 := by omega
  obtain ⟨_, _, t, _⟩ := lb_tab s hs
  have hl : lbN (s + 1) < m := by
    rcases Nat.lt_or_ge (lbN (s + 1)) m with q | q
    · exact q
    · have := Nat.pow_le_pow_right (n := 2) (by decide) q
      omega
  exact sub_up ((sb_up hs f m hm).2 hl)
theorem opL44 {S : XSh} {σ : XSt} {p1 p2 : Int32} {m : Nat} (hm : m ≤ 10) : ∀ (n s : Nat) (A : Int32 × Int32 × Int32), opN p1 m (σ.2 17 0) (σ.2 18 0) (s + 1) = A → s + 1 ≤ 2 ^ m → 2 ^ m - (s + 1) < n → f_X9_opened_L44 n S σ p1 p2 (nI m) A.1 A.2.1 A.2.2 (sbN s (σ.2 17 0) m) (sbN s (σ.2 18 0) m) (nI (s + 1)) = (if p2 = 0 then (opN p1 m (σ.2 17 0) (σ.2 18 0) (2 ^ m)).1 else if p2 = 1 then (opN p1 m (σ.2 17 0) (σ.2 18 0) (2 ^ m)).2.1 else (opN p1 m (σ.2 17 0) (σ.2 18 0) (2 ^ m)).2.2, σ) := by
  have p : 2 ^ m ≤ 2 ^ 10 := Nat.pow_le_pow_right (by decide) hm
  intro n
  induction n with
  | zero => intro s A _ _ h; exact absurd h (Nat.not_lt_zero _)
  | succ n ih =>
    intro s A hA hs hn
    rw [f_X9_opened_L44, sh1_tab m hm]
    by_cases c : s + 1 = 2 ^ m
    · rw [← c, if_pos (Int32.le_refl _), hA]
      by_cases k0 : p2 = 0
      · rw [if_pos k0, if_pos k0]
      · rw [if_neg k0, if_neg k0]
        by_cases k1 : p2 = 1
        · rw [if_pos k1, if_pos k1]
        · rw [if_neg k1, if_neg k1]
    · have c1 : ¬ nI (2 ^ m) ≤ nI (s + 1) := fun q => by have := (nI_leI (by omega) (by omega)).mp q; omega
      obtain ⟨t1, t2, _, _⟩ := lb_tab s (by omega)
      rw [if_neg c1, t1, sum17 t2, sum18 t2, nI_clamp (show lbN (s + 1) < 2 ^ 31 by omega), sb_next hm (by omega) (σ.2 17 0), sb_next hm (by omega) (σ.2 18 0), nI_1]
      obtain ⟨b4, b5, b6⟩ := A
      have st : ∀ X, opStep p1 (sbN (s + 1) (σ.2 17 0) m) (sbN (s + 1) (σ.2 18 0) m) (nI (s + 1)) (b4, b5, b6) = X → f_X9_opened_L44 n S σ p1 p2 (nI m) X.1 X.2.1 X.2.2 (sbN (s + 1) (σ.2 17 0) m) (sbN (s + 1) (σ.2 18 0) m) (nI (s + 1 + 1)) = (if p2 = 0 then (opN p1 m (σ.2 17 0) (σ.2 18 0) (2 ^ m)).1 else if p2 = 1 then (opN p1 m (σ.2 17 0) (σ.2 18 0) (2 ^ m)).2.1 else (opN p1 m (σ.2 17 0) (σ.2 18 0) (2 ^ m)).2.2, σ) := fun X hX => ih (s + 1) X (by rw [opN, hA]; exact hX) (by omega) (by omega)
      generalize sbN (s + 1) (σ.2 17 0) m = db at st ⊢
      generalize sbN (s + 1) (σ.2 18 0) m = nd at st ⊢
      unfold opStep at st
      dsimp only at st ⊢
      by_cases k1 : p1 < nd
      · rw [if_pos k1]
        exact st (b4, b5, b6) (by rw [if_pos k1])
      · rw [if_neg k1]
        by_cases k2 : b5 < db
        · rw [if_pos k2]
          have n1 : ¬ db < b5 := Int32.not_lt.mpr (Int32.le_of_lt k2)
          have n2 : ¬ db = b5 := fun z => by rw [z] at k2; exact Int32.lt_irrefl k2
          exact st (nI (s + 1), db, nd) (by rw [if_neg k1, if_neg n1, if_neg n2])
        · rw [if_neg k2]
          by_cases k3 : db = b5
          · have n1 : ¬ db < b5 := by rw [k3]; exact Int32.lt_irrefl
            rw [if_pos k3]
            by_cases k4 : b6 ≤ nd
            · rw [if_pos k4]
              exact st (b4, b5, b6) (by rw [if_neg k1, if_neg n1, if_pos k3, if_neg (Int32.not_lt.mpr k4)])
            · rw [if_neg k4]
              exact st (nI (s + 1), db, nd) (by rw [if_neg k1, if_neg n1, if_pos k3, if_pos (Int32.not_le.mp k4)])
          · rw [if_neg k3]
            have n1 : db < b5 := by
              rcases Int32.lt_or_eq_of_le (Int32.not_lt.mp k2) with z | z
              · exact z
              · exact absurd z k3
            exact st (b4, b5, b6) (by rw [if_neg k1, if_pos n1])
section OP
variable {S : XSh} {σ : XSt} {τ : MSt}
theorem weighL (h : Al S σ τ) {m : Nat} (hm : m ≤ 10) (hb : m ≤ S 0 1) : ∀ (n k : Nat) (σ1 : XSt), XQ σ σ1 → (∀ i, i < k → σ1.2 17 0 i = dbt τ (nI i)) → (∀ i, i < k → σ1.2 18 0 i = opn τ (nI i)) → k ≤ m → m - k < n → ∃ σ2, f_X9_weighDoubts_L12 n S σ1 (nI m) (nI k) = (nI m, σ2) ∧ XQ σ σ2 ∧ (∀ i, i < m → σ2.2 17 0 i = dbt τ (nI i)) ∧ ∀ i, i < m → σ2.2 18 0 i = opn τ (nI i) := by
  intro n
  induction n with
  | zero => intro k σ1 _ _ _ _ h; exact absurd h (Nat.not_lt_zero _)
  | succ n ih =>
    intro k σ1 hq h1 h2 hk hn
    rw [f_X9_weighDoubts_L12]
    by_cases c : k = m
    · subst c
      rw [if_pos (Int32.le_refl _)]
      exact ⟨σ1, rfl, hq, h1, h2⟩
    · have c1 : ¬ nI m ≤ nI k := fun q => by have := (nI_leI (by omega) (by omega)).mp q; omega
      rw [if_neg c1, nI_clamp (show k < 2 ^ 31 by omega), nI_1]
      have a1 := h.q hq
      have j1 := (eq_judged a1.1 a1.2.2 a1.2.1 (b := k) (by omega)).1
      have s1 := XSm.jd S σ1 k 0
      rw [j1]
      generalize (f_X9_judged S σ1 k 0).2 = σ3 at s1 ⊢
      have q3 : XQ σ (xa σ3 17 0 k (dbt τ (nI k))) := (hq.tr s1.q).xa (by decide)
      have a3 := h.q q3
      have j3 := (eq_judged a3.1 a3.2.2 a3.2.1 (b := k) (by omega)).2.2
      have s3 := XSm.jd S (xa σ3 17 0 k (dbt τ (nI k))) k 2
      rw [j3]
      generalize hσ5 : (f_X9_judged S (xa σ3 17 0 k (dbt τ (nI k))) k 2).2 = σ5 at s3 ⊢
      refine ih (k + 1) _ ((q3.tr s3.q).xa (by decide)) (fun i hi => ?_) (fun i hi => ?_) (by omega) (by omega)
      · rw [xa_2 (by decide), s3.2 17 (by decide) (by decide)]
        by_cases q : i = k
        · rw [q, xa_at]
        · rw [xa_ne q, s1.2 17 (by decide) (by decide)]; exact h1 i (by omega)
      · by_cases q : i = k
        · rw [q, xa_at]
        · rw [xa_ne q, s3.2 18 (by decide) (by decide), xa_2 (by decide), s1.2 18 (by decide) (by decide)]; exact h2 i (by omega)
theorem eq_opened (h : Al S σ τ) (p1 p2 : Int32) : (f_X9_opened S σ p1 p2).1 = fOp τ p1 p2 ∧ XQ σ (f_X9_opened S σ p1 p2).2 := by
  have h0 := h
  obtain ⟨hR, hX, hM⟩ := h
  have h24 := hX.nb.2
  unfold f_X9_opened fOp
  rw [in_up p1 999 999 rfl, show f_X10_in p2.toInt64 0 2 = f_X9_isBelow p2 3 from in_bel p2 2 2 (by decide) rfl]
  by_cases c1 : f_X9_isUpTo p1 999 = 0
  · rw [if_pos c1, if_pos c1]; exact ⟨rfl, XQ.rf σ⟩
  · rw [if_neg c1, if_neg c1]
    by_cases c2 : f_X9_isBelow p2 3 = 0
    · rw [if_pos c2, if_pos c2]; exact ⟨rfl, XQ.rf σ⟩
    · rw [if_neg c2, if_neg c2]
      have hm : opM τ ≤ 10 ∧ opM τ ≤ S 0 1 ∧ (if (10 : Int32) < σ.1 9 0 3 then (10 : Int32) else σ.1 9 0 3) = nI (opM τ) := by
        unfold opM
        rw [hR.b.1, hX.nb.1, nI_clamp (by omega)]
        by_cases q : S 0 1 < 10
        · have q1 : ¬ (10 : Int32) < nI (S 0 1) := fun z => by have := (nI_ltI (a := 10) (by decide) (by omega)).mp z; omega
          rw [if_pos q, if_neg q1]
          exact ⟨by omega, Nat.le_refl _, rfl⟩
        · rw [if_neg q]
          refine ⟨Nat.le_refl _, by omega, ?_⟩
          by_cases q1 : (10 : Int32) < nI (S 0 1)
          · rw [if_pos q1]; rfl
          · rw [if_neg q1]
            have : ¬ 10 < S 0 1 := fun z => q1 (nI_lt (a := 10) z (by omega))
            have e : S 0 1 = 10 := by omega
            rw [e]
      obtain ⟨m10, mb, em⟩ := hm
      unfold opA
      unfold f_X9_weighDoubts
      rw [em]
      generalize opM τ = m at *
      obtain ⟨σ2, e2, q2, d2, o2⟩ := weighL h0 m10 mb 12 0 σ (XQ.rf σ) (fun i hi => absurd hi (Nat.not_lt_zero _)) (fun i hi => absurd hi (Nat.not_lt_zero _)) (Nat.zero_le _) (by omega)
      have e2' : f_X9_weighDoubts_L12 12 S σ (nI m) 0 = (nI m, σ2) := e2
      rw [e2']
      dsimp only
      have p2m : 2 ^ m ≤ 2 ^ 10 := Nat.pow_le_pow_right (by decide) m10
      have p1m : 0 < 2 ^ m := Nat.two_pow_pos m
      have z0 : ∀ f, sbN 0 f m = 0 := fun f => sbN_0 f m m10
      obtain ⟨k, hk, ek⟩ := up_n (N := 999) rfl (by decide) c1
      have first : opN p1 m (σ2.2 17 0) (σ2.2 18 0) (0 + 1) = (0, 0, 0) := by
        have g0 : ¬ p1 < 0 := by rw [ek]; exact nI_pos (by omega)
        rw [opN, z0, z0, opN, opStep, if_neg g0]
        rfl
      have r := opL44 (S := S) (σ := σ2) (p1 := p1) (p2 := p2) m10 1026 0 (0, 0, 0) first (by omega) (by omega)
      rw [z0, z0] at r
      have r' : f_X9_opened_L44 1026 S σ2 p1 p2 (nI m) 0 0 0 0 0 1 = (if p2 = 0 then (opN p1 m (σ2.2 17 0) (σ2.2 18 0) (2 ^ m)).1 else if p2 = 1 then (opN p1 m (σ2.2 17 0) (σ2.2 18 0) (2 ^ m)).2.1 else (opN p1 m (σ2.2 17 0) (σ2.2 18 0) (2 ^ m)).2.2, σ2) := r
      rw [r', opN_cg (D := fun b => dbt τ (nI b)) (O := fun b => opn τ (nI b)) d2 o2]
      exact ⟨rfl, q2⟩
theorem Rel.so {τ' : MSt} (h : Rel S σ τ) (k : SmO τ τ') : Rel S σ τ' := by
  have a (j : Nat) (h1 : j ≠ 46) (h2 : j ≠ 47) : τ'.2.2 j = τ.2.2 j := k.1 j h1 h2
  exact ⟨h.w.tr rfl (k.2 12 (by omega)) (fun j _ _ => a j (by omega) (by omega)), h.b.tr rfl k.dv (k.2 20 (by omega)) (a 10 (by decide) (by decide)), h.s.tr rfl (fun _ _ _ => rfl) k.dv, h.d.tr rfl k.dv, h.k.tr (fun _ _ _ => rfl) (fun j _ _ => a j (by omega) (by omega)), h.i.tr rfl rfl rfl rfl rfl (fun j _ _ => k.2 j (by omega)) (fun j _ _ => a j (by omega) (by omega)), h.r.tr rfl rfl rfl (k.2 3 (by omega)) (k.2 4 (by omega)) k.dv, h.t.tr rfl rfl (k.2 6 (by omega)) (a 5 (by decide) (by decide)), h.g.tr rfl k.dv (fun j _ _ => a j (by omega) (by omega)), h.h.tr rfl rfl (fun j _ _ => a j (by omega) (by omega))⟩
theorem Al.so {τ' : MSt} (h : Al S σ τ) (k : SmO τ τ') : Al S σ τ' := ⟨h.1.so k, h.2.1, h.2.2.so k⟩
theorem Al.rok (h : Al S σ τ) : ROk τ := by
  obtain ⟨k, hk, e⟩ := h.1.r.2.2.1
  obtain ⟨r, hr, _⟩ := h.1.r.2.2.2 k hk
  have h6 := h.2.1.nr.2
  refine ⟨r, ?_⟩
  rw [h.1.r.2.1, e, nI_clamp (by omega)]
  exact hr
/-- the readers leave the class's state alone, but for the rows of its reckoning -/
theorem q_told (S : XSh) (σ : XSt) (p1 p2 : Int32) : XQ σ (f_X9_told S σ p1 p2).2 := by
  have j := fun b c => (XSm.jd S σ b c).q
  unfold f_X9_told
  by_cases c : f_X9_bottleAt S σ p1 = 0
  · rw [if_pos c]; exact XQ.rf σ
  · rw [if_neg c]
    (repeat' split) <;> first | exact XQ.rf σ | exact j _ _
theorem q_odds (S : XSh) (σ : XSt) (p1 p2 : Int32) : XQ σ (f_X9_odds S σ p1 p2).2 := by
  have j := fun b c => (XSm.jd S σ b c).q
  unfold f_X9_odds
  by_cases c : f_X9_bottleAt S σ p1 = 0
  · rw [if_pos c]; exact XQ.rf σ
  · rw [if_neg c]
    (repeat' split) <;> first | exact XQ.rf σ | exact j _ _
theorem q_fallsL : ∀ (n : Nat) (S : XSh) (σ0 σ : XSt) (l1 l2 : Int32) (l3 : Nat) (l4 : Int32) (l5 : Int64) (l7 : Int32), XQ σ0 σ → XQ σ0 (f_X9_falls_L46 n S σ l1 l2 l3 l4 l5 l7).2
  | 0, _, _, _, _, _, _, _, _, _, h => h
  | n + 1, S, σ0, σ, l1, l2, l3, l4, l5, l7, h => by
    rw [f_X9_falls_L46]
    have j := fun b c => (XSm.jd S σ b c).q
    by_cases c1 : σ.1 9 0 3 ≤ l7
    · rw [if_pos c1]; exact h
    · rw [if_neg c1]
      by_cases c2 : σ.1 8 (S 1 l7.toNatClampNeg) 0 = σ.1 8 (S 1 l3) 0
      · rw [if_pos c2]
        by_cases c3 : f_X9_isBarred S σ l7.toNatClampNeg = 0
        · rw [if_pos c3]; exact q_fallsL n S σ0 _ _ _ _ _ _ _ (h.tr (j _ _))
        · rw [if_neg c3]; exact q_fallsL n S σ0 _ _ _ _ _ _ _ h
      · rw [if_neg c2]
        by_cases c4 : ((l4 >>> (l7 &&& 31)) &&& (1 : Int32)) = 1
        · rw [if_pos c4]
          by_cases c3 : f_X9_isBarred S σ l7.toNatClampNeg = 0
          · rw [if_pos c3]; exact q_fallsL n S σ0 _ _ _ _ _ _ _ (h.tr (j _ _))
          · rw [if_neg c3]; exact q_fallsL n S σ0 _ _ _ _ _ _ _ h
        · rw [if_neg c4]; exact q_fallsL n S σ0 _ _ _ _ _ _ _ h
theorem q_falls (S : XSh) (σ : XSt) (p1 p2 : Int32) : XQ σ (f_X9_falls S σ p1 p2).2 := by
  unfold f_X9_falls
  by_cases c : f_X9_bottleAt S σ p1 = 0
  · rw [if_pos c]; exact XQ.rf σ
  · rw [if_neg c]
    by_cases c1 : f_X9_isUpTo p2 100 = 0
    · rw [if_pos c1]; exact XQ.rf σ
    · rw [if_neg c1]; exact q_fallsL _ _ _ _ _ _ _ _ _ _ (XQ.rf σ)
end OP
