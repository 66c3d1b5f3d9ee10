/-! what THE RULE says of a bottle -/
/-- alike but for the rows that reckoning uses -/
def XQ (σ σ' : XSt) : Prop := σ'.1 = σ.1 ∧ ∀ c, 20 ≤ c → ∀ i, σ'.2 c i = σ.2 c i
theorem XSm.q {σ σ' : XSt} (h : XSm σ σ') : XQ σ σ' := ⟨h.1, fun c hc i => h.2 c (by omega) (by omega) i⟩
theorem XQ.rf (σ : XSt) : XQ σ σ := ⟨rfl, fun _ _ _ => rfl⟩
theorem XQ.tr {a b c : XSt} (h : XQ a b) (k : XQ b c) : XQ a c := ⟨k.1.trans h.1, fun q hq i => (k.2 q hq i).trans (h.2 q hq i)⟩
theorem XQ.xa {σ σ' : XSt} (h : XQ σ σ') {c i k : Nat} {x : Int32} (hc : c < 20) : XQ σ (xa σ' c i k x) := by
  refine ⟨h.1, fun q hq j => ?_⟩
  show up3 σ'.2 c i k x q j = σ.2 q j
  rw [up3_other _ _ _ (fun z => by omega)]
  exact h.2 q hq j
theorem XInv.q {S : XSh} {σ σ' : XSt} (h : XInv S σ) (k : XQ σ σ') : XInv S σ' := by
  unfold XInv at h ⊢
  rw [k.1, k.2 23 (by decide)]
  exact h
theorem Rel.q {S : XSh} {σ σ' : XSt} {τ : MSt} (h : Rel S σ τ) (k : XQ σ σ') : Rel S σ' τ := by
  have e (c : Nat) (hc : 20 ≤ c) : σ'.2 c = σ.2 c := funext (k.2 c hc)
  refine ⟨?_, ?_, ?_, ?_, ?_, ?_, ?_, ?_, ?_, ?_⟩
  · have := h.w; unfold RelW at this ⊢; rw [k.1]; exact this
  · have := h.b; unfold RelB at this ⊢; rw [k.1]; exact this
  · have := h.s; unfold RelS at this ⊢; rw [k.1, e 23 (by decide), e 24 (by decide), e 25 (by decide), e 26 (by decide), e 27 (by decide)]; exact this
  · have := h.d; unfold RelD at this ⊢; rw [k.1]; exact this
  · have := h.k; unfold RelK at this ⊢; rw [e 20 (by decide), e 21 (by decide), e 22 (by decide)]; exact this
  · have := h.i; unfold RelI at this ⊢; rw [k.1, e 20 (by decide), e 21 (by decide), e 22 (by decide), e 31 (by decide)]; exact this
  · have := h.r; unfold RelR at this ⊢; rw [k.1, e 32 (by decide)]; exact this
  · have := h.t; unfold RelT at this ⊢; rw [k.1, e 28 (by decide)]; exact this
  · have := h.g; unfold RelG at this ⊢; rw [k.1]; exact this
  · have := h.h; unfold RelH at this ⊢; rw [k.1, e 30 (by decide)]; exact this
theorem bc_bars (τ : MSt) (b : Int32) : f_J6_bitCount_0f7a4 (f_X10_barsOf τ b) = f_X10_bitsOf (f_X10_barsOf τ b) := by
  unfold f_X10_barsOf
  rcases bars_01 τ b 0 with q0 | q0 <;> rcases bars_01 τ b 1 with q1 | q1 <;> rcases bars_01 τ b 2 with q2 | q2 <;> rw [q0, q1, q2] <;> decide +kernel
theorem bc_odds (τ : MSt) (b : Int32) : f_J6_bitCount_0f7a4 (f_X10_oddsOf τ b) = f_X10_bitsOf (f_X10_oddsOf τ b) := by
  unfold f_X10_oddsOf
  rcases isOdd_01 τ b 0 with q0 | q0 <;> rcases isOdd_01 τ b 1 with q1 | q1 <;> rcases isOdd_01 τ b 2 with q2 | q2 <;> rw [q0, q1, q2] <;> decide +kernel
theorem cl_in (x lo hi : Int32) (h : lo ≤ hi) : (if lo < (if x < hi then x else hi) then (if x < hi then x else hi) else lo) = f_X10_within x lo hi := by
  unfold f_X10_within
  by_cases a : x < hi
  · rw [if_pos a]
    by_cases b : lo < x
    · rw [if_pos b, if_pos (Int32.le_of_lt b), if_pos (Int32.le_of_lt a)]
    · rw [if_neg b]
      by_cases c : lo ≤ x
      · rw [if_pos c, if_pos (Int32.le_of_lt a)]
        exact Int32.le_antisymm c (Int32.not_lt.mp b)
      · rw [if_neg c]
  · rw [if_neg a]
    have a' := Int32.not_lt.mp a
    rw [if_pos (Int32.le_trans h a')]
    have e : (if x ≤ hi then x else hi) = hi := by
      by_cases c : x ≤ hi
      · rw [if_pos c]; exact Int32.le_antisymm c a'
      · rw [if_neg c]
    rw [e]
    by_cases b : lo < hi
    · rw [if_pos b]
    · rw [if_neg b]; exact Int32.le_antisymm h (Int32.not_lt.mp b)
theorem xa_at (σ : XSt) (c i k : Nat) (x : Int32) : (xa σ c i k x).2 c i k = x := by
  show up3 σ.2 c i k x c i k = x
  unfold up3
  rw [if_pos ⟨rfl, rfl, rfl⟩]
theorem xa_ne {σ : XSt} {c i k k' : Nat} {x : Int32} (h : k' ≠ k) : (xa σ c i k x).2 c i k' = σ.2 c i k' := by
  show up3 σ.2 c i k x c i k' = _
  unfold up3
  rw [if_neg (fun z => h z.2.2)]
section EQJ
variable {S : XSh} {σ : XSt} {τ : MSt}
theorem eq_names (h : Rel S σ τ) (hM : MInv τ) (hX : XInv S σ) {b : Nat} (hb : b < S 0 1) (i : Nat) (hi : i < 6) : (f_X9_learnNames S σ b).2 15 0 i = envB τ (nI b) i := by
  have h24 := hX.nb.2
  have h8 := hX.nw.2
  have hB := h.b.2 b hb
  have l1 := (hX.2.1 b hb).1
  have hW := h.w.2 _ l1
  have c0 : (Int32.toNatClampNeg (0 : Int32)) = 0 := rfl
  have c1 : (Int32.toNatClampNeg (1 : Int32)) = 1 := rfl
  have c2 : (Int32.toNatClampNeg (2 : Int32)) = 2 := rfl
  have c3 : (Int32.toNatClampNeg (3 : Int32)) = 3 := rfl
  have c4 : (Int32.toNatClampNeg (4 : Int32)) = 4 := rfl
  have c5 : (Int32.toNatClampNeg (5 : Int32)) = 5 := rfl
  unfold f_X9_learnNames envB
  rw [c0, c1, c2, c3, c4, c5, eq_barBits h hM hX hb]
  have k1 (x : Int32) : XSm σ (xa σ 15 0 0 x) := (XSm.rf σ).xa (Or.inl rfl)
  rw [eq_oddBits (h.q (k1 _).q) hM (hX.sm (k1 _)) hb]
  have k5 (a b c d e : Int32) : XSm σ (xa (xa (xa (xa (xa σ 15 0 0 a) 15 0 1 b) 15 0 2 c) 15 0 3 d) 15 0 4 e) := ((((k1 a).xa (Or.inl rfl)).xa (Or.inl rfl)).xa (Or.inl rfl)).xa (Or.inl rfl)
  rw [eq_soldOf (h.q (k5 _ _ _ _ _).q) (hX.sm (k5 _ _ _ _ _)), bc_bars, bc_odds, nI_clamp (show b < 2 ^ 31 by omega), hB.2.1, nI_clamp (show S 1 b < 2 ^ 31 by omega), hW.1, hW.2.1, hW.2.2.1, (h.d b hb).2.1]
  match i, hi with
  | 0, _ => rw [xa_ne (by decide), xa_ne (by decide), xa_ne (by decide), xa_ne (by decide), xa_ne (by decide), xa_at, if_pos rfl]
  | 1, _ => rw [xa_ne (by decide), xa_ne (by decide), xa_ne (by decide), xa_ne (by decide), xa_at, if_neg (by decide), if_pos rfl]
  | 2, _ => rw [xa_ne (by decide), xa_ne (by decide), xa_ne (by decide), xa_at, if_neg (by decide), if_neg (by decide), if_pos rfl]
  | 3, _ => rw [xa_ne (by decide), xa_ne (by decide), xa_at, if_neg (by decide), if_neg (by decide), if_neg (by decide), if_pos rfl]
  | 4, _ => rw [xa_ne (by decide), xa_at, if_neg (by decide), if_neg (by decide), if_neg (by decide), if_neg (by decide), if_pos rfl]
  | 5, _ => rw [xa_at, if_neg (by decide), if_neg (by decide), if_neg (by decide), if_neg (by decide), if_neg (by decide), if_pos rfl]
theorem Rel.rok (h : Rel S σ τ) (hX : XInv S σ) : ROk τ := by
  obtain ⟨k, hk, e⟩ := h.r.2.2.1
  obtain ⟨r, hr, _⟩ := h.r.2.2.2 k hk
  have := hX.nr.2
  exact ⟨r, by rw [h.r.2.1, e, nI_clamp (by omega)]; exact hr⟩
/-- the class's value of a clause is the text's -/
theorem eq_value (h : Rel S σ τ) (hM : MInv τ) (hX : XInv S σ) {b : Nat} (hb : b < S 0 1) : (f_X5_valueOf S (f_X9_learnNames S σ b) (Int32.toNatClampNeg (σ.1 9 0 6)) 0).1 = sy τ (nI b) 0 ∧ (f_X5_valueOf S (f_X9_learnNames S σ b) (Int32.toNatClampNeg (σ.1 9 0 6)) 1).1 = sy τ (nI b) 1 ∧ (f_X5_valueOf S (f_X9_learnNames S σ b) (Int32.toNatClampNeg (σ.1 9 0 6)) 2).1 = sy τ (nI b) 2 := by
  obtain ⟨k, hk, e⟩ := h.r.2.2.1
  have h6 := hX.nr.2
  have hq := h.q (XSm.ln S σ b).q
  obtain ⟨r, hr, l5, l160, hc, p1, p2⟩ := hq.r.2.2.2 k hk
  have hv := eq_names h hM hX hb
  obtain ⟨s1, s2, s3⟩ := text_six _ hr
  obtain ⟨g1, g2, g3⟩ := text_seg _ hr
  have er : rr τ = r := by
    unfold rr
    rw [h.r.2.1, e, nI_clamp (by omega), hr]
  rw [e, nI_clamp (show k < 2 ^ 31 by omega)]
  unfold sy
  rw [er]
  have lc : (codes r).length = r.1.1.length + r.2.1.1.length + r.2.2.1.length := by
    unfold codes
    rw [List.length_append, List.length_append]
  have ll : (r.1.1 ++ r.2.1.1).length = r.1.1.length + r.2.1.1.length := List.length_append
  have d10 : ¬ (1 : Int32) = 0 := by decide
  have d20 : ¬ (2 : Int32) = 0 := by decide
  have d21 : ¬ (2 : Int32) = 1 := by decide
  generalize f_X9_learnNames S σ b = σ' at hv hc p1 p2
  refine ⟨?_, ?_, ?_⟩
  · unfold f_X5_valueOf
    rw [if_pos rfl, if_pos rfl, if_pos rfl, p1]
    have := g1.run (S := S) (σ := σ') (o := k) (p := 0) (by omega) (by omega) (fun j hj => by
      rw [Nat.zero_add, hc j (by omega)]
      unfold codes
      rw [gd_l (by omega), gd_l hj]) 0 0
    rw [Nat.zero_add, show nI 0 = (0 : Int32) from rfl] at this
    rw [this, s1 _ _ hv]
  · unfold f_X5_valueOf
    rw [if_neg d10, if_pos rfl, if_neg d10, if_pos rfl, if_neg d10, if_pos rfl, p1, p2, ll]
    have := g2.run (S := S) (σ := σ') (o := k) (p := r.1.1.length) (by omega) (by omega) (fun j hj => by
      rw [hc _ (by omega)]
      unfold codes
      rw [gd_l (by omega), gd_r]) 1 (nI r.1.1.length)
    rw [this, s2 _ _ hv]
  · unfold f_X5_valueOf
    rw [if_neg d20, if_neg d21, if_neg d20, if_neg d21, if_neg d20, if_neg d21, p2]
    have := g3.run (S := S) (σ := σ') (o := k) (p := (r.1.1 ++ r.2.1.1).length) (by omega) (by omega) (fun j hj => by
      rw [hc _ (by omega)]
      unfold codes
      rw [gd_r]) 2 (nI (r.1.1 ++ r.2.1.1).length)
    rw [ll, ← lc, ← l5] at this
    rw [ll, this, s3 _ _ hv]
theorem eq_judged (h : Rel S σ τ) (hM : MInv τ) (hX : XInv S σ) {b : Nat} (hb : b < S 0 1) : (f_X9_judged S σ b 0).1 = dbt τ (nI b) ∧ (f_X9_judged S σ b 1).1 = prc τ (nI b) ∧ (f_X9_judged S σ b 2).1 = opn τ (nI b) := by
  obtain ⟨k, hk, e⟩ := h.r.2.2.1
  obtain ⟨n5, h6⟩ := hX.nr
  obtain ⟨v0, v1, v2⟩ := eq_value h hM hX hb
  have b1 : ¬ f_X9_isBelow (σ.1 9 0 6) (σ.1 9 0 5) = 0 := by
    rw [e, n5, f_below, if_pos ⟨nI_pos' (by omega), nI_lt hk (by omega)⟩]
    decide
  have b2 : ¬ (6 : Int32) ≤ σ.1 9 0 6 := by
    rw [e]
    exact fun z => by have := (nI_leI (a := 6) (by decide) (by omega)).mp z; omega
  have d10 : ¬ (1 : Int32) = 0 := by decide
  have d12 : ¬ (1 : Int32) = 2 := by decide
  have d02 : ¬ (0 : Int32) = 2 := by decide
  have d20 : ¬ (2 : Int32) = 0 := by decide
  have d21 : ¬ (2 : Int32) = 1 := by decide
  refine ⟨?_, ?_, ?_⟩
  · unfold f_X9_judged dbt
    rw [if_neg b1, if_neg b2, if_neg d02, if_pos rfl, v0]
    exact cl_in _ 0 99 (by decide)
  · unfold f_X9_judged prc
    rw [if_neg b1, if_neg b2, if_neg d12, if_neg d10, if_pos rfl, v1]
    exact cl_in _ 0 9999 (by decide)
  · unfold f_X9_judged opn
    rw [if_neg b1, if_neg b2, if_pos rfl, if_neg d20, if_neg d21, v2]
    exact cl_in _ 1 999 (by decide)
end EQJ
