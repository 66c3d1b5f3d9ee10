/-! writers: copy -/
theorem CI.of2 {k : Nat} (hk : k ≤ 40) {i n : Int32} (hn : ¬ n < 0) (hi : ¬ i < 0) (c : ¬ nI k - n < i) : ∃ a m : Nat, i = nI a ∧ n = nI m ∧ a + m ≤ k := by
  obtain ⟨m, hm, rfl⟩ := nI_of hn
  obtain ⟨a, ha, rfl⟩ := nI_of hi
  refine ⟨a, m, rfl, rfl, ?_⟩
  have e : (nI k - nI m).toInt = (k : Int) - m := by
    rw [Int32.toInt_sub, nI_toInt (by omega), nI_toInt hm]
    apply Int.bmod_eq_of_le <;> omega
  have h1 : ¬ (nI k - nI m).toInt < (nI a).toInt := fun q => c (Int32.lt_iff_toInt_lt.mpr q)
  rw [e, nI_toInt ha] at h1
  omega
theorem copyF (s1 s3 q2 q4 N : Nat) (h1 : s1 < 4) (h3 : s3 < 4) (k2 : q2 + N ≤ 40) (k4 : q4 + N ≤ 40) (hf : 40 * s3 + q4 ≤ 40 * s1 + q2 ∨ 40 * s1 + q2 + N ≤ 40 * s3 + q4) : ∀ (n k : Nat) (τ : MSt), k ≤ N → N - k < n → ∃ a, f_X10_copy_L121 n τ (nI s1) (nI q2) (nI s3) (nI q4) (nI N) 0 (nI k) = (nI N, mbb τ 59 a) ∧ (∀ i, k ≤ i → i < N → a (40 * s3 + q4 + i) = τ.2.2 59 (40 * s1 + q2 + i)) ∧ ∀ x, ¬ (40 * s3 + q4 + k ≤ x ∧ x < 40 * s3 + q4 + N) → a x = τ.2.2 59 x := by
  intro n
  induction n with
  | zero => intro k τ _ h; exact absurd h (Nat.not_lt_zero _)
  | succ n ih =>
    intro k τ hk hn
    rw [f_X10_copy_L121]
    by_cases c : k = N
    · subst c
      rw [if_pos (Int32.le_refl _)]
      exact ⟨τ.2.2 59, by rw [mbb_self], fun i h1 h2 => by omega, fun _ _ => rfl⟩
    · have c1 : ¬ nI N ≤ nI k := fun q => by have := (nI_leI (by omega) (by omega)).mp q; omega
      rw [if_neg c1, if_pos rfl, show (40 : Int32) * nI s1 = nI (40 * s1) from pk_mul 40 s1, show (40 : Int32) * nI s3 = nI (40 * s3) from pk_mul 40 s3, nI_add, nI_add, nI_add, nI_add, nI_clamp (show 40 * s3 + q4 + k < 2 ^ 31 by omega), nI_clamp (show 40 * s1 + q2 + k < 2 ^ 31 by omega), nI_1]
      obtain ⟨a, e1, e2, e3⟩ := ih (k + 1) (ma τ 59 (40 * s3 + q4 + k) (τ.2.2 59 (40 * s1 + q2 + k))) (by omega) (by omega)
      refine ⟨a, by rw [e1, mbb_ma], fun i i1 i2 => ?_, fun x hx => ?_⟩
      · by_cases q : i = k
        · rw [q, e3 _ (by omega), ma_k, upd_at]
        · rw [e2 i (by omega) i2, ma_k, upd_ne (by omega)]
      · rw [e3 x (by omega), ma_k, upd_ne (by omega)]
theorem copyB (s1 s3 q2 q4 N : Nat) (h1 : s1 < 4) (h3 : s3 < 4) (k2 : q2 + N ≤ 40) (k4 : q4 + N ≤ 40) (hb : 40 * s1 + q2 ≤ 40 * s3 + q4) : ∀ (n k : Nat) (τ : MSt), k ≤ N → N - k < n → ∃ a, f_X10_copy_L121 n τ (nI s1) (nI q2) (nI s3) (nI q4) (nI N) 1 (nI k) = (nI N, mbb τ 59 a) ∧ (∀ i, i < N - k → a (40 * s3 + q4 + i) = τ.2.2 59 (40 * s1 + q2 + i)) ∧ ∀ x, ¬ (40 * s3 + q4 ≤ x ∧ x < 40 * s3 + q4 + (N - k)) → a x = τ.2.2 59 x := by
  intro n
  induction n with
  | zero => intro k τ _ h; exact absurd h (Nat.not_lt_zero _)
  | succ n ih =>
    intro k τ hk hn
    rw [f_X10_copy_L121]
    by_cases c : k = N
    · subst c
      rw [if_pos (Int32.le_refl _)]
      exact ⟨τ.2.2 59, by rw [mbb_self], fun i h2 => by omega, fun _ _ => rfl⟩
    · have c1 : ¬ nI N ≤ nI k := fun q => by have := (nI_leI (by omega) (by omega)).mp q; omega
      have ej : nI N - 1 - nI k = nI (N - 1 - k) := by
        rw [show (1 : Int32) = nI 1 from rfl, pk_sub (by omega), pk_sub (by omega)]
      rw [if_neg c1, if_neg n10, ej, show (40 : Int32) * nI s1 = nI (40 * s1) from pk_mul 40 s1, show (40 : Int32) * nI s3 = nI (40 * s3) from pk_mul 40 s3, nI_add, nI_add, nI_add, nI_add, nI_clamp (show 40 * s3 + q4 + (N - 1 - k) < 2 ^ 31 by omega), nI_clamp (show 40 * s1 + q2 + (N - 1 - k) < 2 ^ 31 by omega), nI_1]
      obtain ⟨a, e1, e2, e3⟩ := ih (k + 1) (ma τ 59 (40 * s3 + q4 + (N - 1 - k)) (τ.2.2 59 (40 * s1 + q2 + (N - 1 - k)))) (by omega) (by omega)
      refine ⟨a, by rw [e1, mbb_ma], fun i i2 => ?_, fun x hx => ?_⟩
      · by_cases q : i = N - 1 - k
        · rw [q, e3 _ (by omega), ma_k, upd_at]
        · rw [e2 i (by omega), ma_k, upd_ne (by omega)]
      · rw [e3 x (by omega), ma_k, upd_ne (by omega)]
section W4
variable {S : XSh} {σ σ' : XSt} {τ τ' : MSt}
theorem w_copy (h : Al S σ τ) (p1 p2 p3 p4 p5 : Int32) : Wr S (f_X9_copy S σ p1 p2 p3 p4 p5) (f_X10_copy τ p1 p2 p3 p4 p5) := by
  have h0 := h
  obtain ⟨hR, hX, hM⟩ := h
  unfold f_X9_copy f_X10_copy
  rcases eq_sheet (S := S) (σ := σ) p1 with ⟨q1, r1⟩ | ⟨q1, r1, s1, h1, rfl⟩
  · rw [if_pos q1, if_pos r1]
    split
    · exact Wr.no h0
    · exact Wr.no h0
  · rw [q1, r1, if_neg n10, if_neg n10]
    rcases eq_sheet (S := S) (σ := σ) p3 with ⟨q3, r3⟩ | ⟨q3, r3, s3, h3, rfl⟩
    · rw [if_pos q3, if_pos r3]; exact Wr.no h0
    · rw [q3, r3, if_neg n10, if_neg n10, nI_clamp (show s1 < 2 ^ 31 by omega), nI_clamp (show s3 < 2 ^ 31 by omega)]
      rcases sheet_n hR hX h1 with ⟨a, b⟩ | ⟨a, b, c, z1, hz1, ez1, fz1, d1⟩
      · rw [if_pos a, if_pos b]; exact Wr.no h0
      · rw [if_neg a, if_neg b]
        rcases sheet_n hR hX h3 with ⟨a', b'⟩ | ⟨a', b', c', z3, hz3, ez3, fz3, d3⟩
        · rw [if_pos a', if_pos b']; exact Wr.no h0
        · rw [if_neg a', if_neg b', c, c']
          by_cases ck : τ.2.2 57 s1 = τ.2.2 57 s3
          · rw [if_pos ck, if_pos ck]
            unfold f_X6_has
            rw [ez1, ez3, fz1, fz3]
            by_cases c5 : p5 < 0
            · by_cases c2 : p2 < 0
              · simp only [if_pos c5, if_pos c2, if_true]; exact Wr.no h0
              · simp only [if_pos c5, if_neg c2, if_true]; exact Wr.no h0
            · by_cases c2 : p2 < 0
              · simp only [if_neg c5, if_pos c2, if_true]; exact Wr.no h0
              · by_cases c4 : p4 < 0
                · simp only [if_neg c5, if_neg c2, if_pos c4]
                  by_cases c6 : nI z1 - p5 < p2
                  · rw [if_pos c6, if_pos rfl]; exact Wr.no h0
                  · rw [if_neg c6, if_neg n10]; simp only [if_true]; exact Wr.no h0
                · simp only [if_neg c5, if_neg c2, if_neg c4]
                  by_cases c6 : nI z1 - p5 < p2
                  · simp only [if_pos c6, if_true]; exact Wr.no h0
                  · simp only [if_neg c6]; rw [if_neg n10]
                    by_cases c7 : nI z3 - p5 < p4
                    · rw [if_pos c7, if_pos rfl, if_neg (Int32.not_le.mpr c7)]; exact Wr.no h0
                    · rw [if_neg c7, if_neg n10, if_pos (Int32.not_lt.mp c7)]
                      obtain ⟨q2, N, rfl, rfl, k2⟩ := CI.of2 hz1 c5 c2 c6
                      obtain ⟨q4, N', rfl, eN, k4⟩ := CI.of2 hz3 c5 c4 c7
                      have eN' : N' = N := by
                        obtain ⟨m, hm, em⟩ := nI_of c5
                        have t1 := congrArg Int32.toNatClampNeg eN
                        have b1 : N < 2 ^ 31 := by omega
                        have b2 : N' < 2 ^ 31 := by omega
                        rw [nI_clamp b1, nI_clamp b2] at t1
                        exact t1.symm
                      subst eN'
                      have main : ∃ a, (if nI s1 = nI s3 then if nI q4 ≤ nI q2 then f_X10_copy_L121 42 τ (nI s1) (nI q2) (nI s3) (nI q4) (nI N') 0 0 else f_X10_copy_L121 42 τ (nI s1) (nI q2) (nI s3) (nI q4) (nI N') 1 0 else f_X10_copy_L121 42 τ (nI s1) (nI q2) (nI s3) (nI q4) (nI N') 0 0) = (nI N', mbb τ 59 a) ∧ (∀ i, i < N' → a (40 * s3 + q4 + i) = τ.2.2 59 (40 * s1 + q2 + i)) ∧ ∀ x, ¬ (40 * s3 + q4 ≤ x ∧ x < 40 * s3 + q4 + N') → a x = τ.2.2 59 x := by
                        have F := fun hf => copyF s1 s3 q2 q4 N' h1 h3 (by omega) (by omega) hf 42 0 τ (Nat.zero_le _) (by omega)
                        by_cases es : nI s1 = nI s3
                        · have es' : s1 = s3 := by
                            have := congrArg Int32.toNatClampNeg es
                            rw [nI_clamp (by omega), nI_clamp (by omega)] at this
                            exact this
                          rw [if_pos es]
                          by_cases cq : nI q4 ≤ nI q2
                          · rw [if_pos cq]
                            have := (nI_leI (by omega) (by omega)).mp cq
                            obtain ⟨a, e1, e2, e3⟩ := F (Or.inl (by omega))
                            exact ⟨a, e1, fun i hi => e2 i (Nat.zero_le _) hi, e3⟩
                          · rw [if_neg cq]
                            have : ¬ q4 ≤ q2 := fun w => cq (nI_le w (by omega))
                            obtain ⟨a, e1, e2, e3⟩ := copyB s1 s3 q2 q4 N' h1 h3 (by omega) (by omega) (by omega) 42 0 τ (Nat.zero_le _) (by omega)
                            exact ⟨a, e1, e2, e3⟩
                        · have es' : s1 ≠ s3 := fun w => es (by rw [w])
                          rw [if_neg es]
                          obtain ⟨a, e1, e2, e3⟩ := F (by omega)
                          exact ⟨a, e1, fun i hi => e2 i (Nat.zero_le _) hi, e3⟩
                      obtain ⟨a, e1, e2, e3⟩ := main
                      rw [e1, nI_clamp (show q2 < 2 ^ 31 by omega), nI_clamp (show q4 < 2 ^ 31 by omega), nI_clamp (show N' < 2 ^ 31 by omega)]
                      have v : Dv τ (mbb τ 59 a) := (Dv.rf τ).mbb (by omega)
                      have y (i : Nat) : up3a σ.2 30 s3 (va_cpy (σ.2 30 s1) (σ.2 30 s3) q2 q4 N') 30 s3 i = va_cpy (σ.2 30 s1) (σ.2 30 s3) q2 q4 N' i := by rw [up3a_self]
                      refine ⟨rfl, ⟨hR.w.tr rfl rfl (fun j a b => mbb_j (by omega)), hR.b.tr rfl v rfl (mbb_j (by decide)), hR.s.tr rfl (fun c a b => xb_c (by omega)) v, hR.d.tr rfl v, hR.k.tr (fun c a b => xb_c (by omega)) (fun j a b => mbb_j (by omega)), hR.i.tr rfl (xb_2 (by omega)) (xb_2 (by omega)) (xb_2 (by omega)) (xb_c (by decide)) (fun _ _ _ => rfl) (fun j a b => mbb_j (by omega)), hR.r.tr rfl rfl (xb_c (by decide)) rfl rfl v, hR.t.tr rfl (xb_c (by decide)) rfl (mbb_j (by decide)), hR.g.tr rfl v (fun j a b => mbb_j (by omega)), fun t ht => ?_⟩, ?_, hM⟩
                      · rw [mbb_j (by decide), mbb_j (by decide), mbb_j (by decide), mbb_k]
                        rcases sheet_n hR hX ht with ⟨u1, u2⟩ | ⟨u1, u2, u3, z, hz, u4, u5, u6⟩
                        · exact Or.inl ⟨u1, u2⟩
                        · refine Or.inr ⟨u1, u2, u3, u4.trans u5.symm, fun i hi => ?_⟩
                          rw [u5, nI_clamp (by omega)] at hi
                          show up3a σ.2 30 s3 (va_cpy (σ.2 30 s1) (σ.2 30 s3) q2 q4 N') 30 t i = _
                          by_cases q : t = s3
                          · subst q
                            rw [y]
                            unfold va_cpy
                            by_cases w : q4 ≤ i ∧ i < q4 + N'
                            · rw [if_pos w, d1 _ (by omega), show 40 * t + i = 40 * t + q4 + (i - q4) by omega, e2 _ (by omega)]
                              rw [Nat.add_assoc (40 * s1) q2]
                            · rw [if_neg w, e3 _ (by omega)]
                              exact u6 i hi
                          · rw [up3a_other _ _ (fun w => q w.2), e3 _ (by omega)]
                            exact u6 i hi
                      · have hh := hX
                        unfold XInv at hh ⊢
                        rw [xb_c (show 23 ≠ 30 by decide)]
                        exact hh
          · rw [if_neg ck, if_neg ck]; exact Wr.no h0
end W4
