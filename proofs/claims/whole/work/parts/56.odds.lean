/-! told, odds -/
section EQO
variable {S : XSh} {σ : XSt} {τ : MSt}
theorem eq_told (h : Rel S σ τ) (hM : MInv τ) (hX : XInv S σ) (p1 p2 : Int32) : (f_X9_told S σ p1 p2).1 = f_X10_told τ p1 p2 := by
  have h24 := hX.nb.2
  have h8 := hX.nw.2
  unfold f_X9_told f_X10_told
  rcases eq_bottle h hX p1 with ⟨q1, q2⟩ | ⟨q1, q2, b, hb, rfl⟩
  · rw [if_pos q1, if_pos q2]
  · rw [q1, q2, if_neg n10, if_neg n10, nI_clamp (show b < 2 ^ 31 by omega)]
    have hB := h.b.2 b hb
    have hD := h.d b hb
    have l1 := (hX.2.1 b hb).1
    have hW := h.w.2 _ l1
    obtain ⟨j0, j1, j2⟩ := eq_judged h hM hX hb
    obtain ⟨j, hj, ej⟩ := vp_in_of (hM.kind b) (by decide)
    by_cases k0 : p2 = 0
    · rw [if_pos k0, if_pos k0]; exact hB.1
    · rw [if_neg k0, if_neg k0]
      by_cases k1 : p2 = 1
      · rw [if_pos k1, if_pos k1, hB.2.1]; exact hW.1
      · rw [if_neg k1, if_neg k1]
        by_cases k2 : p2 = 2
        · rw [if_pos k2, if_pos k2]; exact eq_barBits h hM hX hb
        · rw [if_neg k2, if_neg k2]
          by_cases k3 : p2 = 3
          · rw [if_pos k3, if_pos k3]; exact eq_oddBits h hM hX hb
          · rw [if_neg k3, if_neg k3]
            by_cases k4 : p2 = 4
            · rw [if_pos k4, if_pos k4, eq_isBarred h hM hX hb]
              by_cases c : f_X10_isBarred τ (nI b) = 0
              · rw [if_pos c, if_pos c]
              · rw [if_neg c, if_neg c]
            · rw [if_neg k4, if_neg k4]
              by_cases k5 : p2 = 5
              · rw [if_pos k5, if_pos k5]; exact hD.2.1
              · rw [if_neg k5, if_neg k5]
                by_cases k6 : p2 = 6
                · rw [if_pos k6, if_pos k6, hB.1, ej]; exact wt_tab j hj
                · rw [if_neg k6, if_neg k6]
                  by_cases k7 : p2 = 7
                  · rw [if_pos k7, if_pos k7]; exact hD.1
                  · rw [if_neg k7, if_neg k7]
                    by_cases k8 : p2 = 8
                    · rw [if_pos k8, if_pos k8]; exact j0
                    · rw [if_neg k8, if_neg k8]
                      by_cases k9 : p2 = 9
                      · rw [if_pos k9, if_pos k9]; exact j1
                      · rw [if_neg k9, if_neg k9]
                        by_cases k10 : p2 = 10
                        · rw [if_pos k10, if_pos k10]; exact j2
                        · rw [if_neg k10, if_neg k10]
/-- six kinds, a hundred doubts -/
abbrev OgP (j d : Nat) : Prop := ¬ f_X9_commonDivisor (f_X9_weightOf 1 * (100 - nI d)) (f_X9_weightOf 1 * (100 - nI d) + f_X9_weightOf (nI j) * (nI d + 1)) = 0 ∧ Int32.toInt64 (f_X9_weightOf 1 * (100 - nI d) / f_X9_commonDivisor (f_X9_weightOf 1 * (100 - nI d)) (f_X9_weightOf 1 * (100 - nI d) + f_X9_weightOf (nI j) * (nI d + 1))) = Int32.toInt64 (f_X10_weightOf 1) * Int32.toInt64 (100 - nI d) / f_X10_common (Int32.toInt64 (f_X10_weightOf 1) * Int32.toInt64 (100 - nI d)) (Int32.toInt64 (f_X10_weightOf 1) * Int32.toInt64 (100 - nI d) + Int32.toInt64 (f_X10_weightOf (nI j)) * Int32.toInt64 (nI d + 1)) ∧ Int32.toInt64 ((f_X9_weightOf 1 * (100 - nI d) + f_X9_weightOf (nI j) * (nI d + 1)) / f_X9_commonDivisor (f_X9_weightOf 1 * (100 - nI d)) (f_X9_weightOf 1 * (100 - nI d) + f_X9_weightOf (nI j) * (nI d + 1))) = (Int32.toInt64 (f_X10_weightOf 1) * Int32.toInt64 (100 - nI d) + Int32.toInt64 (f_X10_weightOf (nI j)) * Int32.toInt64 (nI d + 1)) / f_X10_common (Int32.toInt64 (f_X10_weightOf 1) * Int32.toInt64 (100 - nI d)) (Int32.toInt64 (f_X10_weightOf 1) * Int32.toInt64 (100 - nI d) + Int32.toInt64 (f_X10_weightOf (nI j)) * Int32.toInt64 (nI d + 1))
theorem og_tab : ∀ j, j < 6 → ∀ d, d < 100 → OgP j d := by decide +kernel
theorem eq_odds (h : Rel S σ τ) (hM : MInv τ) (hX : XInv S σ) (p1 p2 : Int32) : (f_X9_odds S σ p1 p2).1 = f_X10_odds τ p1 p2 := by
  have h24 := hX.nb.2
  unfold f_X9_odds f_X10_odds
  rcases eq_bottle h hX p1 with ⟨q1, q2⟩ | ⟨q1, q2, b, hb, rfl⟩
  · rw [if_pos q1, if_pos q2]
  · rw [q1, q2, if_neg n10, if_neg n10, nI_clamp (show b < 2 ^ 31 by omega), show f_X10_in p2.toInt64 0 1 = f_X9_isBelow p2 2 from in_bel p2 1 1 (by decide) rfl, eq_isBarred h hM hX hb]
    have hB := h.b.2 b hb
    obtain ⟨j0, _, _⟩ := eq_judged h hM hX hb
    obtain ⟨j, hj, ej⟩ := vp_in_of (hM.kind b) (by decide)
    obtain ⟨d, hd, ed⟩ := dbt_ct τ (nI b)
    by_cases c1 : f_X9_isBelow p2 2 = 0
    · rw [if_pos c1, if_pos c1]
    · rw [if_neg c1, if_neg c1]
      by_cases c2 : f_X10_isBarred τ (nI b) = 0
      · rw [if_pos c2, if_pos c2, (XSm.jd S σ b 0).1, hB.1, j0, ej, ed]
        by_cases c3 : f_X9_isOfKind (nI j) 1 = 0
        · have k := (kd_tab j hj).mp c3
          have k1 : ¬ nI j = 1 := fun z => k (Or.inl z)
          have k3 : ¬ nI j = 3 := fun z => k (Or.inr z)
          obtain ⟨t0, t1, t2⟩ := og_tab j hj d (by omega)
          rw [if_pos c3, if_neg k1, if_neg k3, if_neg t0]
          by_cases c4 : p2 = 0
          · rw [if_pos c4, if_pos c4]; exact t1
          · rw [if_neg c4, if_neg c4]; exact t2
        · have k : nI j = 1 ∨ nI j = 3 := Classical.byContradiction (fun z => c3 ((kd_tab j hj).mpr z))
          obtain ⟨t0, t1, t2⟩ := og_tab 5 (by decide) d (by omega)
          have t0' : ¬ f_X9_commonDivisor (f_X9_weightOf 1 * (100 - nI d)) (f_X9_weightOf 1 * (100 - nI d) + f_X9_weightOf 5 * (nI d + 1)) = 0 := t0
          rw [if_neg c3, if_neg t0']
          by_cases k1 : nI j = 1
          · rw [if_pos k1]
            by_cases c4 : p2 = 0
            · rw [if_pos c4, if_pos c4]; exact t1
            · rw [if_neg c4, if_neg c4]; exact t2
          · rw [if_neg k1, if_pos (k.resolve_left k1)]
            by_cases c4 : p2 = 0
            · rw [if_pos c4, if_pos c4]; exact t1
            · rw [if_neg c4, if_neg c4]; exact t2
      · rw [if_neg c2, if_neg c2]
end EQO
