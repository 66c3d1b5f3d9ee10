/-! writers: sales -/
theorem sale_6 (S : XSh) (σ : XSt) (a b c e : Int32) : (f_X9_sale S σ a b c e).2.1 6 = σ.1 6 := by
  have w : ∀ x y z u o k l m, (f_X1_passOn S (f_X3_write S σ x y z u).2 o k l m).1 6 = σ.1 6 := fun x y z u o k l m => by
    rw [(pass_pk S _ o k l m).1 6 (by decide)]
    unfold f_X3_write
    split
    · exact xp_c (by decide)
    · rfl
  unfold f_X9_sale
  by_cases c1 : f_X9_bottleAt S σ a = 0
  · rw [if_pos c1]
  · rw [if_neg c1]
    by_cases c2 : f_X9_isUpTo b 99 = 0
    · rw [if_pos c2]
    · rw [if_neg c2]
      by_cases c3 : b / 10 = b - b / 10 * 10
      · rw [if_pos c3]
      · rw [if_neg c3]
        by_cases c4 : f_X9_isUpTo c 9999 = 0
        · rw [if_pos c4]
        · rw [if_neg c4]
          by_cases c5 : f_X9_isUpTo e 99 = 0
          · rw [if_pos c5]
          · rw [if_neg c5]
            by_cases c6 : σ.1 1 a.toNatClampNeg 8 ≤ e
            · rw [if_pos c6]
              by_cases c7 : σ.1 3 0 5 < 40
              · rw [if_pos c7]; exact w _ _ _ _ _ _ _ _
              · rw [if_neg c7]
            · rw [if_neg c6]
section W10
variable {S : XSh}
theorem salesL {s z m : Nat} (hs : s < 4) (hz : z ≤ 40) (hm : m ≤ 10) (p2 : Int32) (a : Nat) (ha : a < 2 ^ 31) : ∀ (n k : Nat) (σ : XSt) (τ : MSt) (came : Int32), Al S σ τ → σ.1 6 s 2 = nI z → ¬ σ.1 6 s 1 = -1 → (k = 0 ∨ a + 4 * k ≤ z) → k ≤ m → m - k < n → Wr S (f_X9_sales_L63 n S σ (nI s) p2 (nI a) (nI m) s came (nI k)) (f_X10_sales_L75 n τ (nI s) p2 (nI a) (nI m) came (nI k)) := by
  intro n
  induction n with
  | zero => intro k σ τ came _ _ _ _ _ h; exact absurd h (Nat.not_lt_zero _)
  | succ n ih =>
    intro k σ τ came h e2 e1 hk0 hk hn
    rw [f_X9_sales_L63, f_X10_sales_L75]
    by_cases c : k = m
    · subst c
      rw [if_pos (Int32.le_refl _), if_pos (Int32.le_refl _)]
      exact ⟨rfl, h⟩
    · have c1 : ¬ nI m ≤ nI k := fun q => by have := (nI_leI (by omega) (by omega)).mp q; omega
      have ak : a + 4 * k < 2 ^ 31 := by omega
      have m4 : (4 : Int32) * nI k = nI (4 * k) := pk_mul 4 k
      have rd : τ.2.2 58 s = nI z ∧ ∀ i, i < z → σ.2 30 s i = τ.2.2 59 (40 * s + i) := by
        rcases sheet_n h.1 h.2.1 hs with ⟨q, r⟩ | ⟨_, _, _, z', hz', ez', ez2', e'⟩
        · exact absurd r e1
        · have zz : z' = z := by
            have := congrArg Int32.toNatClampNeg (ez'.symm.trans e2)
            rw [nI_clamp (by omega), nI_clamp (by omega)] at this
            exact this
          subst zz
          exact ⟨ez2', e'⟩
      rw [if_neg c1, if_neg c1, if_neg (nI_pos ha), m4, nI_add, nI_clamp (show s < 2 ^ 31 by omega), rd.1]
      unfold f_X6_has
      rw [if_neg (nI_pos ak), if_neg (by decide : ¬ (4 : Int32) < 0), e2]
      have t1 : (nI z - 4 : Int32).toInt = (z : Int) - 4 := pk_sub_toInt (a := z) (b := 4) (by omega) (by decide)
      have t2 : (nI z - nI (4 * k) - 4 : Int32).toInt = (z : Int) - 4 * k - 4 := by
        rw [Int32.toInt_sub, pk_sub_toInt (by omega) (by omega), show (4 : Int32).toInt = 4 from rfl]
        rw [Int.bmod_eq_of_le (by omega) (by omega)]
        omega
      by_cases c2 : a + 4 * k + 4 ≤ z
      · have q1 : ¬ (nI z - 4 : Int32) < nI (a + 4 * k) := fun q => by
          have := Int32.lt_iff_toInt_lt.mp q
          rw [t1, nI_toInt ak] at this
          omega
        have q2 : nI a ≤ (nI z - nI (4 * k) - 4 : Int32) := Int32.le_iff_toInt_le.mpr (by
          rw [t2, nI_toInt ha]
          omega)
        have x0 : (40 : Int32) * nI s + nI a + nI (4 * k) = nI (40 * s + (a + 4 * k)) := by
          rw [show (40 : Int32) * nI s = nI (40 * s) from pk_mul 40 s, nI_add, nI_add, Nat.add_assoc]
        rw [if_neg q1, if_neg n10, if_pos q2, x0]
        have l1 : nI (a + 4 * k) + 1 = nI (a + 4 * k + 1) := nI_1 _
        have l2 : nI (a + 4 * k) + 2 = nI (a + 4 * k + 2) := nI_add _ 2
        have l3 : nI (a + 4 * k) + 3 = nI (a + 4 * k + 3) := nI_add _ 3
        have r1 : nI (40 * s + (a + 4 * k)) + 1 = nI (40 * s + (a + 4 * k + 1)) := nI_1 _
        have r2 : nI (40 * s + (a + 4 * k)) + 2 = nI (40 * s + (a + 4 * k + 2)) := nI_add _ 2
        have r3 : nI (40 * s + (a + 4 * k)) + 3 = nI (40 * s + (a + 4 * k + 3)) := nI_add _ 3
        rw [l1, l2, l3, r1, r2, r3, nI_clamp (show a + 4 * k < 2 ^ 31 by omega), nI_clamp (show a + 4 * k + 1 < 2 ^ 31 by omega), nI_clamp (show a + 4 * k + 2 < 2 ^ 31 by omega), nI_clamp (show a + 4 * k + 3 < 2 ^ 31 by omega), nI_clamp (show 40 * s + (a + 4 * k) < 2 ^ 31 by omega), nI_clamp (show 40 * s + (a + 4 * k + 1) < 2 ^ 31 by omega), nI_clamp (show 40 * s + (a + 4 * k + 2) < 2 ^ 31 by omega), nI_clamp (show 40 * s + (a + 4 * k + 3) < 2 ^ 31 by omega), rd.2 _ (show a + 4 * k < z by omega), rd.2 _ (show a + 4 * k + 1 < z by omega), rd.2 _ (show a + 4 * k + 2 < z by omega), rd.2 _ (show a + 4 * k + 3 < z by omega)]
        have w := w_sale h (τ.2.2 59 (40 * s + (a + 4 * k))) (τ.2.2 59 (40 * s + (a + 4 * k + 1))) (τ.2.2 59 (40 * s + (a + 4 * k + 2))) (τ.2.2 59 (40 * s + (a + 4 * k + 3)))
        have w6 := sale_6 S σ (τ.2.2 59 (40 * s + (a + 4 * k))) (τ.2.2 59 (40 * s + (a + 4 * k + 1))) (τ.2.2 59 (40 * s + (a + 4 * k + 2))) (τ.2.2 59 (40 * s + (a + 4 * k + 3)))
        generalize f_X9_sale S σ (τ.2.2 59 (40 * s + (a + 4 * k))) (τ.2.2 59 (40 * s + (a + 4 * k + 1))) (τ.2.2 59 (40 * s + (a + 4 * k + 2))) (τ.2.2 59 (40 * s + (a + 4 * k + 3))) = x at w w6
        generalize f_X10_sale τ (τ.2.2 59 (40 * s + (a + 4 * k))) (τ.2.2 59 (40 * s + (a + 4 * k + 1))) (τ.2.2 59 (40 * s + (a + 4 * k + 2))) (τ.2.2 59 (40 * s + (a + 4 * k + 3))) = y at w
        obtain ⟨w1, w2⟩ := w
        rw [w1, nI_1]
        have go := fun came => ih (k + 1) x.2 y.2 came w2 (by rw [w6]; exact e2) (by rw [w6]; exact e1) (Or.inr (by omega)) (by omega) (by omega)
        by_cases c3 : y.1 < 0
        · rw [if_pos c3, if_pos c3, Int32.add_zero]; exact go came
        · rw [if_neg c3, if_neg c3]; exact go (came + 1)
      · have q1 : (nI z - 4 : Int32) < nI (a + 4 * k) := Int32.lt_iff_toInt_lt.mpr (by
          rw [t1, nI_toInt ak]
          omega)
        have q2 : ¬ nI a ≤ (nI z - nI (4 * k) - 4 : Int32) := fun q => by
          have := Int32.le_iff_toInt_le.mp q
          rw [t2, nI_toInt ha] at this
          omega
        rw [if_pos q1, if_pos rfl, if_neg q2]
        exact ⟨rfl, h⟩
theorem w_sales {σ : XSt} {τ : MSt} (h : Al S σ τ) (p1 p2 p3 p4 : Int32) : Wr S (f_X9_sales S σ p1 p2 p3 p4) (f_X10_sales τ p1 p2 p3 p4) := by
  unfold f_X9_sales f_X10_sales
  rw [in_up p2 2 2 rfl, in_up p4 10 10 rfl]
  rcases eq_sheet (S := S) (σ := σ) p1 with ⟨q1, q2⟩ | ⟨q1, q2, s, hs, rfl⟩
  · rw [if_pos q1, if_pos q2]; exact Wr.no h
  · rw [q1, q2, if_neg n10, if_neg n10, nI_clamp (show s < 2 ^ 31 by omega)]
    by_cases c1 : f_X9_isUpTo p2 2 = 0
    · rw [if_pos c1, if_pos c1]; exact Wr.no h
    · rw [if_neg c1, if_neg c1]
      by_cases c2 : f_X9_isUpTo p4 10 = 0
      · rw [if_pos c2, if_pos c2]; exact Wr.no h
      · rw [if_neg c2, if_neg c2]
        obtain ⟨m, hm, rfl⟩ := up_n (N := 10) rfl (by decide) c2
        rcases sheet_n h.1 h.2.1 hs with ⟨a, b⟩ | ⟨a, b, c, z, hz, ez, ez2, e⟩
        · rw [if_pos a, if_pos a, if_pos b]; exact Wr.no h
        · rw [if_neg a, if_neg a, if_neg b, c]
          by_cases ck : τ.2.2 57 s = p2
          · rw [if_pos ck, if_pos ck]
            by_cases c3 : p3 < 0
            · have f1 : f_X9_sales_L63 12 S σ (nI s) p2 p3 (nI m) s 0 0 = if nI m ≤ 0 then (0, σ) else (-12, σ) := by
                rw [f_X9_sales_L63]
                by_cases q : nI m ≤ 0
                · rw [if_pos q, if_pos q]
                · rw [if_neg q, if_neg q]
                  have : f_X6_has S σ s (p3 + 4 * 0) 4 = 0 := by
                    unfold f_X6_has
                    rw [show p3 + 4 * 0 = p3 from by rw [show (4 : Int32) * 0 = 0 from rfl, Int32.add_zero], if_pos c3]
                  rw [if_pos this]
              have f2 : f_X10_sales_L75 12 τ (nI s) p2 p3 (nI m) 0 0 = if nI m ≤ 0 then (0, τ) else (-12, τ) := by
                rw [f_X10_sales_L75]
                by_cases q : nI m ≤ 0
                · rw [if_pos q, if_pos q]
                · rw [if_neg q, if_neg q, if_pos c3]
              rw [f1, f2]
              by_cases q : nI m ≤ 0
              · rw [if_pos q, if_pos q]; exact Wr.no h
              · rw [if_neg q, if_neg q]; exact Wr.no h
            · obtain ⟨i, hi, rfl⟩ := nI_of c3
              exact salesL hs hz hm p2 i hi 12 0 σ τ 0 h ez b (Or.inl rfl) (Nat.zero_le _) (by omega)
          · rw [if_neg ck, if_neg ck]; exact Wr.no h
end W10
