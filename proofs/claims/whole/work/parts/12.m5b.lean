def CI (i n : Int32) : Prop := ∃ a m : Nat, i = nI a ∧ n = nI m ∧ a + m ≤ 40
theorem CI.of {z i n : Int32} (hz : Ct z 40) (hn : ¬ n < 0) (hi : ¬ i < 0) (c : ¬ z - n < i) : CI i n := by
  obtain ⟨k, hk, rfl⟩ := hz
  obtain ⟨m, hm, rfl⟩ := nI_of hn
  obtain ⟨a, ha, rfl⟩ := nI_of hi
  refine ⟨a, m, rfl, rfl, ?_⟩
  have e : (nI k - nI m).toInt = (k : Int) - m := by
    rw [Int32.toInt_sub, nI_toInt (by omega), nI_toInt hm]
    apply Int.bmod_eq_of_le <;> omega
  have h1 : ¬ (nI k - nI m).toInt < (nI a).toInt := fun q => c (Int32.lt_iff_toInt_lt.mpr q)
  rw [e, nI_toInt ha] at h1
  omega
theorem CI.of' {z i n : Int32} (hz : Ct z 40) (hn : ¬ n < 0) (hi : ¬ i < 0) (c : i ≤ z - n) : CI i n := CI.of hz hn hi (Int32.not_lt.mpr c)
theorem CI.ct {i n : Int32} (h : CI i n) : Ct n 40 := by
  obtain ⟨a, m, rfl, rfl, h⟩ := h
  exact ⟨m, by omega, rfl⟩
theorem CI.up {s i n k : Int32} (hs : vp_in s 4) (h : CI i n) (hk : Ct k 40) (c : ¬ n ≤ k) : vp_in (40 * s + i + k) 160 ∧ vp_in (40 * s + i + (n - 1 - k)) 160 := by
  obtain ⟨a, m, rfl, rfl, h⟩ := h
  obtain ⟨b, hb, rfl⟩ := hk
  obtain ⟨t, ht, rfl⟩ := vp_in_of hs (by decide)
  have hlt : b < m := by
    rcases Nat.lt_or_ge b m with q | q
    · exact q
    · exact absurd (nI_le q (by omega)) c
  rw [show (40 : Int32) * nI t = nI (40 * t) from pk_mul 40 t, show (1 : Int32) = nI 1 from rfl, pk_sub (by omega), pk_sub (by omega), nI_add, nI_add, nI_add]
  exact ⟨vp_in_nI (by omega) (by decide), vp_in_nI (by omega) (by decide)⟩
theorem MInv.szz {σ : MSt} (h : MInv σ) {s : Int32} (c : ¬ σ.2.2 56 (Int32.toNatClampNeg s) = 0) : Ct (σ.2.2 58 (Int32.toNatClampNeg s)) 40 := Or.resolve_left (h.sz _) c

def f_X10_copy_L121 : Nat → MSt → Int32 → Int32 → Int32 → Int32 → Int32 → Int32 → Int32 → Int32 × MSt
  | 0, σ, _, _, _, _, _, _, _ => (0, σ)
  | n + 1, σ, l1, l2, l3, l4, l5, l6, l7 => (if l5 ≤ l7 then (l5, σ) else (if l6 = 0 then (f_X10_copy_L121 n (ma σ 59 (Int32.toNatClampNeg ((((40 : Int32) * l3) + l4) + l7)) (σ.2.2 59 (Int32.toNatClampNeg ((((40 : Int32) * l1) + l2) + l7)))) l1 l2 l3 l4 l5 l6 (l7 + (1 : Int32))) else (f_X10_copy_L121 n (ma σ 59 (Int32.toNatClampNeg ((((40 : Int32) * l3) + l4) + ((l5 - (1 : Int32)) - l7))) (σ.2.2 59 (Int32.toNatClampNeg ((((40 : Int32) * l1) + l2) + ((l5 - (1 : Int32)) - l7))))) l1 l2 l3 l4 l5 l6 (l7 + (1 : Int32)))))
set_option maxRecDepth 100000 in
set_option maxHeartbeats 1000000 in
theorem lp_X10_copy_121 {g : GC} {E : ME} {d : Nat} {K : Option Value → MSt → Prop} (hE : MEok E) (hd : 2 ≤ d) : ∀ (fuel : Nat) (σ : MSt) (l1 : Int32) (l2 : Int32) (l3 : Int32) (l4 : Int32) (l5 : Int32) (l6 : Int32) (l7 : Int32), vp_in l1 4 → vp_in l3 4 → CI l2 l5 → CI l4 l5 → Ct l7 40 → 41 - l7.toNatClampNeg < fuel → K (some (.int (f_X10_copy_L121 fuel σ l1 l2 l3 l4 l5 l6 l7).1)) (f_X10_copy_L121 fuel σ l1 l2 l3 l4 l5 l6 l7).2 → MW g E cX10_copy 9 (some FieldType.int) "copy" d K 121 [(0, .ref E.2.2), (1, .int l1), (2, .int l2), (3, .int l3), (4, .int l4), (5, .int l5), (6, .int l6), (7, .int l7)] [] σ := by
  intro fuel
  induction fuel with
  | zero => intro σ l1 l2 l3 l4 l5 l6 l7 i0 i1 i2 i3 i4 hm hK; exact absurd hm (Nat.not_lt_zero _)
  | succ n ih =>
    intro σ l1 l2 l3 l4 l5 l6 l7 i0 i1 i2 i3 i4 hm hK
    refine r_iload dX10_copy_121 rfl ?_
    refine r_iload dX10_copy_123 rfl ?_
    refine r_icmp_ge (tgt := 182) dX10_copy_125 (by decide) (fun c13 => ?_) (fun c13 => ?_)
    · refine r_iload dX10_copy_182 rfl ?_
      refine r_iret dX10_copy_184 rfl rfl ?_
      exact ⟨_, rfl, by rw [f_X10_copy_L121, if_pos c13] at hK; exact hK⟩
    · refine r_iload dX10_copy_128 rfl ?_
      refine r_if_eq (tgt := 143) dX10_copy_130 (by decide) (fun c14 => ?_) (fun c14 => ?_)
      · refine r_iload dX10_copy_143 rfl ?_
        refine r_istore dX10_copy_145 (by decide) ?_
        refine r_aload_n dX10_copy_147 rfl ?_
        refine m_get dX10_copy_148 fl_RX10_114 rfl ?_
        refine r_bipush (v := (40 : Int32)) dX10_copy_151 (by decide) ?_
        refine r_iload_n dX10_copy_153 rfl ?_
        refine r_imul dX10_copy_154 ?_
        refine r_iload dX10_copy_155 rfl ?_
        refine r_iadd dX10_copy_157 ?_
        refine r_iload dX10_copy_158 rfl ?_
        refine r_iadd dX10_copy_160 ?_
        refine r_aload_n dX10_copy_161 rfl ?_
        refine m_get dX10_copy_162 fl_RX10_114 rfl ?_
        refine r_bipush (v := (40 : Int32)) dX10_copy_165 (by decide) ?_
        refine r_iload_n dX10_copy_167 rfl ?_
        refine r_imul dX10_copy_168 ?_
        refine r_iload_n dX10_copy_169 rfl ?_
        refine r_iadd dX10_copy_170 ?_
        refine r_iload dX10_copy_171 rfl ?_
        refine r_iadd dX10_copy_173 ?_
        refine m_iald (k := 59) (N := 160) hE (by decide) rfl rfl dX10_copy_174 (by with_reducible first | exact isSheet_in (by with_reducible assumption) | exact (CI.up i1 i3 i4 (by with_reducible assumption)).1 | exact (CI.up i0 i2 i4 (by with_reducible assumption)).1 | exact (CI.up i1 i3 i4 (by with_reducible assumption)).2 | exact (CI.up i0 i2 i4 (by with_reducible assumption)).2) ?_
        refine m_iast (k := 59) (N := 160) hE (by decide) rfl rfl dX10_copy_175 (by with_reducible first | exact isSheet_in (by with_reducible assumption) | exact (CI.up i1 i3 i4 (by with_reducible assumption)).1 | exact (CI.up i0 i2 i4 (by with_reducible assumption)).1 | exact (CI.up i1 i3 i4 (by with_reducible assumption)).2 | exact (CI.up i0 i2 i4 (by with_reducible assumption)).2) ?_
        refine r_iinc2 (w := (1 : Int32)) dX10_copy_176 rfl (by decide) (by decide) ?_
        refine r_goto (tgt := 121) dX10_copy_179 (by decide) ?_
        refine r_loc (L' := [(0, .ref E.2.2), (1, .int l1), (2, .int l2), (3, .int l3), (4, .int l4), (5, .int l5), (6, .int l6), (7, .int (l7 + (1 : Int32)))]) [2, 3, 4, 5, 6, 7, 8, 0] rfl ?_
        exact ih (ma σ 59 (Int32.toNatClampNeg ((((40 : Int32) * l3) + l4) + l7)) (σ.2.2 59 (Int32.toNatClampNeg ((((40 : Int32) * l1) + l2) + l7))))  l1 l2 l3 l4 l5 l6 (l7 + (1 : Int32)) (by exact i0) (by exact i1) (by exact i2) (by exact i3) (by exact (Ct.up (by decide) i2.ct i4 (by with_reducible assumption)).2.1) (by have u := (Ct.up (by decide) i2.ct i4 (by with_reducible assumption)).2.2; omega) (by rw [f_X10_copy_L121, if_neg c13, if_pos c14] at hK; exact hK)
      · refine r_iload dX10_copy_133 rfl ?_
        refine r_iconst (v := (1 : Int32)) dX10_copy_135 (by decide) ?_
        refine r_isub dX10_copy_136 ?_
        refine r_iload dX10_copy_137 rfl ?_
        refine r_isub dX10_copy_139 ?_
        refine r_goto (tgt := 145) dX10_copy_140 (by decide) ?_
        refine r_istore dX10_copy_145 (by decide) ?_
        refine r_aload_n dX10_copy_147 rfl ?_
        refine m_get dX10_copy_148 fl_RX10_114 rfl ?_
        refine r_bipush (v := (40 : Int32)) dX10_copy_151 (by decide) ?_
        refine r_iload_n dX10_copy_153 rfl ?_
        refine r_imul dX10_copy_154 ?_
        refine r_iload dX10_copy_155 rfl ?_
        refine r_iadd dX10_copy_157 ?_
        refine r_iload dX10_copy_158 rfl ?_
        refine r_iadd dX10_copy_160 ?_
        refine r_aload_n dX10_copy_161 rfl ?_
        refine m_get dX10_copy_162 fl_RX10_114 rfl ?_
        refine r_bipush (v := (40 : Int32)) dX10_copy_165 (by decide) ?_
        refine r_iload_n dX10_copy_167 rfl ?_
        refine r_imul dX10_copy_168 ?_
        refine r_iload_n dX10_copy_169 rfl ?_
        refine r_iadd dX10_copy_170 ?_
        refine r_iload dX10_copy_171 rfl ?_
        refine r_iadd dX10_copy_173 ?_
        refine m_iald (k := 59) (N := 160) hE (by decide) rfl rfl dX10_copy_174 (by with_reducible first | exact isSheet_in (by with_reducible assumption) | exact (CI.up i1 i3 i4 (by with_reducible assumption)).1 | exact (CI.up i0 i2 i4 (by with_reducible assumption)).1 | exact (CI.up i1 i3 i4 (by with_reducible assumption)).2 | exact (CI.up i0 i2 i4 (by with_reducible assumption)).2) ?_
        refine m_iast (k := 59) (N := 160) hE (by decide) rfl rfl dX10_copy_175 (by with_reducible first | exact isSheet_in (by with_reducible assumption) | exact (CI.up i1 i3 i4 (by with_reducible assumption)).1 | exact (CI.up i0 i2 i4 (by with_reducible assumption)).1 | exact (CI.up i1 i3 i4 (by with_reducible assumption)).2 | exact (CI.up i0 i2 i4 (by with_reducible assumption)).2) ?_
        refine r_iinc2 (w := (1 : Int32)) dX10_copy_176 rfl (by decide) (by decide) ?_
        refine r_goto (tgt := 121) dX10_copy_179 (by decide) ?_
        refine r_loc (L' := [(0, .ref E.2.2), (1, .int l1), (2, .int l2), (3, .int l3), (4, .int l4), (5, .int l5), (6, .int l6), (7, .int (l7 + (1 : Int32)))]) [2, 3, 4, 5, 6, 7, 8, 0] rfl ?_
        exact ih (ma σ 59 (Int32.toNatClampNeg ((((40 : Int32) * l3) + l4) + ((l5 - (1 : Int32)) - l7))) (σ.2.2 59 (Int32.toNatClampNeg ((((40 : Int32) * l1) + l2) + ((l5 - (1 : Int32)) - l7)))))  l1 l2 l3 l4 l5 l6 (l7 + (1 : Int32)) (by exact i0) (by exact i1) (by exact i2) (by exact i3) (by exact (Ct.up (by decide) i2.ct i4 (by with_reducible assumption)).2.1) (by have u := (Ct.up (by decide) i2.ct i4 (by with_reducible assumption)).2.2; omega) (by rw [f_X10_copy_L121, if_neg c13, if_neg c14] at hK; exact hK)
def f_X10_copy (σ : MSt) (p1 : Int32) (p2 : Int32) (p3 : Int32) (p4 : Int32) (p5 : Int32) : Int32 × MSt := (if (f_X10_isSheet p1) = 0 then ((-2 : Int32), σ) else (if (f_X10_isSheet p3) = 0 then ((-2 : Int32), σ) else (if (σ.2.2 56 (Int32.toNatClampNeg p1)) = 0 then ((-11 : Int32), σ) else (if (σ.2.2 56 (Int32.toNatClampNeg p3)) = 0 then ((-11 : Int32), σ) else (if (σ.2.2 57 (Int32.toNatClampNeg p1)) = (σ.2.2 57 (Int32.toNatClampNeg p3)) then (if p5 < 0 then ((-12 : Int32), σ) else (if p2 < 0 then ((-12 : Int32), σ) else (if p4 < 0 then ((-12 : Int32), σ) else (if ((σ.2.2 58 (Int32.toNatClampNeg p1)) - p5) < p2 then ((-12 : Int32), σ) else (if p4 ≤ ((σ.2.2 58 (Int32.toNatClampNeg p3)) - p5) then (if p1 = p3 then (if p4 ≤ p2 then (f_X10_copy_L121 (42) σ p1 p2 p3 p4 p5 (0 : Int32) (0 : Int32)) else (f_X10_copy_L121 (42) σ p1 p2 p3 p4 p5 (1 : Int32) (0 : Int32))) else (f_X10_copy_L121 (42) σ p1 p2 p3 p4 p5 (0 : Int32) (0 : Int32))) else ((-12 : Int32), σ)))))) else ((-13 : Int32), σ))))))
set_option maxRecDepth 100000 in
set_option maxHeartbeats 1000000 in
theorem ok_X10_copy {g : GC} {E : ME} {d : Nat} (hE : MEok E) (hd : 2 ≤ d) (σ : MSt) (p1 : Int32) (p2 : Int32) (p3 : Int32) (p4 : Int32) (p5 : Int32) (h0 : MInv σ) : MC g E d yX10_copy cX10_copy 9 (some FieldType.int) [.int p1, .int p2, .int p3, .int p4, .int p5] (fun v σ' => v = some (.int (f_X10_copy σ p1 p2 p3 p4 p5).1) ∧ σ' = (f_X10_copy σ p1 p2 p3 p4 p5).2) σ := by
  refine AM.of2 (own := RX10) (nm := "copy") (L0 := [(0, .ref E.2.2), (1, .int p1), (2, .int p2), (3, .int p3), (4, .int p4), (5, .int p5)]) (by decide) rfl rfl (Nat.le_of_ble_eq_true rfl) rfl ?_
  refine r_iload_n dX10_copy_0 rfl ?_
  refine m_callS dX10_copy_1 mf_X10_isSheet ml_RX10_440 (ok_X10_isSheet (d := d - 1) (by omega) _) rfl rfl (Nat.le_of_ble_eq_true rfl) (by omega) ?_
  refine r_if_eq (tgt := 14) dX10_copy_4 (by decide) (fun c1 => ?_) (fun c1 => ?_)
  · refine r_bipush (v := (-2 : Int32)) dX10_copy_14 (by decide) ?_
    refine r_iret dX10_copy_16 rfl rfl ?_
    exact ⟨_, rfl, by rw [f_X10_copy, if_pos c1], by rw [f_X10_copy, if_pos c1]⟩
  · refine r_iload_n dX10_copy_7 rfl ?_
    refine m_callS dX10_copy_8 mf_X10_isSheet ml_RX10_440 (ok_X10_isSheet (d := d - 1) (by omega) _) rfl rfl (Nat.le_of_ble_eq_true rfl) (by omega) ?_
    refine r_if_ne (tgt := 17) dX10_copy_11 (by decide) (fun c2 => ?_) (fun c2 => ?_)
    · refine r_aload_n dX10_copy_17 rfl ?_
      refine m_get dX10_copy_18 fl_RX10_104 rfl ?_
      refine r_iload_n dX10_copy_21 rfl ?_
      refine m_zald hE dX10_copy_22 (by with_reducible first | exact isSheet_in (by with_reducible assumption) | exact (CI.up i1 i3 i4 (by with_reducible assumption)).1 | exact (CI.up i0 i2 i4 (by with_reducible assumption)).1 | exact (CI.up i1 i3 i4 (by with_reducible assumption)).2 | exact (CI.up i0 i2 i4 (by with_reducible assumption)).2) ?_
      refine r_if_eq (tgt := 35) dX10_copy_23 (by decide) (fun c3 => ?_) (fun c3 => ?_)
      · refine r_bipush (v := (-11 : Int32)) dX10_copy_35 (by decide) ?_
        refine r_iret dX10_copy_37 rfl rfl ?_
        exact ⟨_, rfl, by rw [f_X10_copy, if_neg c1, if_neg c2, if_pos c3], by rw [f_X10_copy, if_neg c1, if_neg c2, if_pos c3]⟩
      · refine r_aload_n dX10_copy_26 rfl ?_
        refine m_get dX10_copy_27 fl_RX10_104 rfl ?_
        refine r_iload_n dX10_copy_30 rfl ?_
        refine m_zald hE dX10_copy_31 (by with_reducible first | exact isSheet_in (by with_reducible assumption) | exact (CI.up i1 i3 i4 (by with_reducible assumption)).1 | exact (CI.up i0 i2 i4 (by with_reducible assumption)).1 | exact (CI.up i1 i3 i4 (by with_reducible assumption)).2 | exact (CI.up i0 i2 i4 (by with_reducible assumption)).2) ?_
        refine r_if_ne (tgt := 38) dX10_copy_32 (by decide) (fun c4 => ?_) (fun c4 => ?_)
        · refine r_aload_n dX10_copy_38 rfl ?_
          refine m_get dX10_copy_39 fl_RX10_108 rfl ?_
          refine r_iload_n dX10_copy_42 rfl ?_
          refine m_iald (k := 57) (N := 4) hE (by decide) rfl rfl dX10_copy_43 (by with_reducible first | exact isSheet_in (by with_reducible assumption) | exact (CI.up i1 i3 i4 (by with_reducible assumption)).1 | exact (CI.up i0 i2 i4 (by with_reducible assumption)).1 | exact (CI.up i1 i3 i4 (by with_reducible assumption)).2 | exact (CI.up i0 i2 i4 (by with_reducible assumption)).2) ?_
          refine r_aload_n dX10_copy_44 rfl ?_
          refine m_get dX10_copy_45 fl_RX10_108 rfl ?_
          refine r_iload_n dX10_copy_48 rfl ?_
          refine m_iald (k := 57) (N := 4) hE (by decide) rfl rfl dX10_copy_49 (by with_reducible first | exact isSheet_in (by with_reducible assumption) | exact (CI.up i1 i3 i4 (by with_reducible assumption)).1 | exact (CI.up i0 i2 i4 (by with_reducible assumption)).1 | exact (CI.up i1 i3 i4 (by with_reducible assumption)).2 | exact (CI.up i0 i2 i4 (by with_reducible assumption)).2) ?_
          refine r_icmp_eq (tgt := 56) dX10_copy_50 (by decide) (fun c5 => ?_) (fun c5 => ?_)
          · refine r_iload dX10_copy_56 rfl ?_
            refine r_if_lt (tgt := 97) dX10_copy_58 (by decide) (fun c6 => ?_) (fun c6 => ?_)
            · refine r_bipush (v := (-12 : Int32)) dX10_copy_97 (by decide) ?_
              refine r_iret dX10_copy_99 rfl rfl ?_
              exact ⟨_, rfl, by rw [f_X10_copy, if_neg c1, if_neg c2, if_neg c3, if_neg c4, if_pos c5, if_pos c6], by rw [f_X10_copy, if_neg c1, if_neg c2, if_neg c3, if_neg c4, if_pos c5, if_pos c6]⟩
            · refine r_iload_n dX10_copy_61 rfl ?_
              refine r_if_lt (tgt := 97) dX10_copy_62 (by decide) (fun c7 => ?_) (fun c7 => ?_)
              · refine r_bipush (v := (-12 : Int32)) dX10_copy_97 (by decide) ?_
                refine r_iret dX10_copy_99 rfl rfl ?_
                exact ⟨_, rfl, by rw [f_X10_copy, if_neg c1, if_neg c2, if_neg c3, if_neg c4, if_pos c5, if_neg c6, if_pos c7], by rw [f_X10_copy, if_neg c1, if_neg c2, if_neg c3, if_neg c4, if_pos c5, if_neg c6, if_pos c7]⟩
              · refine r_iload dX10_copy_65 rfl ?_
                refine r_if_lt (tgt := 97) dX10_copy_67 (by decide) (fun c8 => ?_) (fun c8 => ?_)
                · refine r_bipush (v := (-12 : Int32)) dX10_copy_97 (by decide) ?_
                  refine r_iret dX10_copy_99 rfl rfl ?_
                  exact ⟨_, rfl, by rw [f_X10_copy, if_neg c1, if_neg c2, if_neg c3, if_neg c4, if_pos c5, if_neg c6, if_neg c7, if_pos c8], by rw [f_X10_copy, if_neg c1, if_neg c2, if_neg c3, if_neg c4, if_pos c5, if_neg c6, if_neg c7, if_pos c8]⟩
                · refine r_iload_n dX10_copy_70 rfl ?_
                  refine r_aload_n dX10_copy_71 rfl ?_
                  refine m_get dX10_copy_72 fl_RX10_111 rfl ?_
                  refine r_iload_n dX10_copy_75 rfl ?_
                  refine m_iald (k := 58) (N := 4) hE (by decide) rfl rfl dX10_copy_76 (by with_reducible first | exact isSheet_in (by with_reducible assumption) | exact (CI.up i1 i3 i4 (by with_reducible assumption)).1 | exact (CI.up i0 i2 i4 (by with_reducible assumption)).1 | exact (CI.up i1 i3 i4 (by with_reducible assumption)).2 | exact (CI.up i0 i2 i4 (by with_reducible assumption)).2) ?_
                  refine r_iload dX10_copy_77 rfl ?_
                  refine r_isub dX10_copy_79 ?_
                  refine r_icmp_gt (tgt := 97) dX10_copy_80 (by decide) (fun c9 => ?_) (fun c9 => ?_)
                  · refine r_bipush (v := (-12 : Int32)) dX10_copy_97 (by decide) ?_
                    refine r_iret dX10_copy_99 rfl rfl ?_
                    exact ⟨_, rfl, by rw [f_X10_copy, if_neg c1, if_neg c2, if_neg c3, if_neg c4, if_pos c5, if_neg c6, if_neg c7, if_neg c8, if_pos c9], by rw [f_X10_copy, if_neg c1, if_neg c2, if_neg c3, if_neg c4, if_pos c5, if_neg c6, if_neg c7, if_neg c8, if_pos c9]⟩
                  · refine r_iload dX10_copy_83 rfl ?_
                    refine r_aload_n dX10_copy_85 rfl ?_
                    refine m_get dX10_copy_86 fl_RX10_111 rfl ?_
                    refine r_iload_n dX10_copy_89 rfl ?_
                    refine m_iald (k := 58) (N := 4) hE (by decide) rfl rfl dX10_copy_90 (by with_reducible first | exact isSheet_in (by with_reducible assumption) | exact (CI.up i1 i3 i4 (by with_reducible assumption)).1 | exact (CI.up i0 i2 i4 (by with_reducible assumption)).1 | exact (CI.up i1 i3 i4 (by with_reducible assumption)).2 | exact (CI.up i0 i2 i4 (by with_reducible assumption)).2) ?_
                    refine r_iload dX10_copy_91 rfl ?_
                    refine r_isub dX10_copy_93 ?_
                    refine r_icmp_le (tgt := 100) dX10_copy_94 (by decide) (fun c10 => ?_) (fun c10 => ?_)
                    · refine r_iload_n dX10_copy_100 rfl ?_
                      refine r_iload_n dX10_copy_101 rfl ?_
                      refine r_icmp_ne (tgt := 115) dX10_copy_102 (by decide) (fun c11 => ?_) (fun c11 => ?_)
                      · refine r_iconst (v := (0 : Int32)) dX10_copy_115 (by decide) ?_
                        refine r_istore dX10_copy_116 (by decide) ?_
                        refine r_iconst (v := (0 : Int32)) dX10_copy_118 (by decide) ?_
                        refine r_istore dX10_copy_119 (by decide) ?_
                        refine r_loc (L' := [(0, .ref E.2.2), (1, .int p1), (2, .int p2), (3, .int p3), (4, .int p4), (5, .int p5), (6, .int (0 : Int32)), (7, .int (0 : Int32))]) [2, 3, 4, 5, 6, 7, 1, 0] rfl ?_
                        exact lp_X10_copy_121 hE (by omega) (42) σ p1 p2 p3 p4 p5 (0 : Int32) (0 : Int32) (by exact isSheet_in (by with_reducible assumption)) (by exact isSheet_in (by with_reducible assumption)) (by exact CI.of (h0.szz (s := p1) (by with_reducible assumption)) (by with_reducible assumption) (by with_reducible assumption) (by with_reducible assumption)) (by exact CI.of' (h0.szz (s := p3) (by with_reducible assumption)) (by with_reducible assumption) (by with_reducible assumption) (by with_reducible assumption)) (by exact Ct.zero _) (by decide) ⟨by rw [f_X10_copy, if_neg c1, if_neg c2, if_neg c3, if_neg c4, if_pos c5, if_neg c6, if_neg c7, if_neg c8, if_neg c9, if_pos c10, if_neg c11], by rw [f_X10_copy, if_neg c1, if_neg c2, if_neg c3, if_neg c4, if_pos c5, if_neg c6, if_neg c7, if_neg c8, if_neg c9, if_pos c10, if_neg c11]⟩
                      · refine r_iload_n dX10_copy_105 rfl ?_
                        refine r_iload dX10_copy_106 rfl ?_
                        refine r_icmp_ge (tgt := 115) dX10_copy_108 (by decide) (fun c12 => ?_) (fun c12 => ?_)
                        · refine r_iconst (v := (0 : Int32)) dX10_copy_115 (by decide) ?_
                          refine r_istore dX10_copy_116 (by decide) ?_
                          refine r_iconst (v := (0 : Int32)) dX10_copy_118 (by decide) ?_
                          refine r_istore dX10_copy_119 (by decide) ?_
                          refine r_loc (L' := [(0, .ref E.2.2), (1, .int p1), (2, .int p2), (3, .int p3), (4, .int p4), (5, .int p5), (6, .int (0 : Int32)), (7, .int (0 : Int32))]) [2, 3, 4, 5, 6, 7, 1, 0] rfl ?_
                          exact lp_X10_copy_121 hE (by omega) (42) σ p1 p2 p3 p4 p5 (0 : Int32) (0 : Int32) (by exact isSheet_in (by with_reducible assumption)) (by exact isSheet_in (by with_reducible assumption)) (by exact CI.of (h0.szz (s := p1) (by with_reducible assumption)) (by with_reducible assumption) (by with_reducible assumption) (by with_reducible assumption)) (by exact CI.of' (h0.szz (s := p3) (by with_reducible assumption)) (by with_reducible assumption) (by with_reducible assumption) (by with_reducible assumption)) (by exact Ct.zero _) (by decide) ⟨by rw [f_X10_copy, if_neg c1, if_neg c2, if_neg c3, if_neg c4, if_pos c5, if_neg c6, if_neg c7, if_neg c8, if_neg c9, if_pos c10, if_pos c11, if_pos c12], by rw [f_X10_copy, if_neg c1, if_neg c2, if_neg c3, if_neg c4, if_pos c5, if_neg c6, if_neg c7, if_neg c8, if_neg c9, if_pos c10, if_pos c11, if_pos c12]⟩
                        · refine r_iconst (v := (1 : Int32)) dX10_copy_111 (by decide) ?_
                          refine r_goto (tgt := 116) dX10_copy_112 (by decide) ?_
                          refine r_istore dX10_copy_116 (by decide) ?_
                          refine r_iconst (v := (0 : Int32)) dX10_copy_118 (by decide) ?_
                          refine r_istore dX10_copy_119 (by decide) ?_
                          refine r_loc (L' := [(0, .ref E.2.2), (1, .int p1), (2, .int p2), (3, .int p3), (4, .int p4), (5, .int p5), (6, .int (1 : Int32)), (7, .int (0 : Int32))]) [2, 3, 4, 5, 6, 7, 1, 0] rfl ?_
                          exact lp_X10_copy_121 hE (by omega) (42) σ p1 p2 p3 p4 p5 (1 : Int32) (0 : Int32) (by exact isSheet_in (by with_reducible assumption)) (by exact isSheet_in (by with_reducible assumption)) (by exact CI.of (h0.szz (s := p1) (by with_reducible assumption)) (by with_reducible assumption) (by with_reducible assumption) (by with_reducible assumption)) (by exact CI.of' (h0.szz (s := p3) (by with_reducible assumption)) (by with_reducible assumption) (by with_reducible assumption) (by with_reducible assumption)) (by exact Ct.zero _) (by decide) ⟨by rw [f_X10_copy, if_neg c1, if_neg c2, if_neg c3, if_neg c4, if_pos c5, if_neg c6, if_neg c7, if_neg c8, if_neg c9, if_pos c10, if_pos c11, if_neg c12], by rw [f_X10_copy, if_neg c1, if_neg c2, if_neg c3, if_neg c4, if_pos c5, if_neg c6, if_neg c7, if_neg c8, if_neg c9, if_pos c10, if_pos c11, if_neg c12]⟩
                    · refine r_bipush (v := (-12 : Int32)) dX10_copy_97 (by decide) ?_
                      refine r_iret dX10_copy_99 rfl rfl ?_
                      exact ⟨_, rfl, by rw [f_X10_copy, if_neg c1, if_neg c2, if_neg c3, if_neg c4, if_pos c5, if_neg c6, if_neg c7, if_neg c8, if_neg c9, if_neg c10], by rw [f_X10_copy, if_neg c1, if_neg c2, if_neg c3, if_neg c4, if_pos c5, if_neg c6, if_neg c7, if_neg c8, if_neg c9, if_neg c10]⟩
          · refine r_bipush (v := (-13 : Int32)) dX10_copy_53 (by decide) ?_
            refine r_iret dX10_copy_55 rfl rfl ?_
            exact ⟨_, rfl, by rw [f_X10_copy, if_neg c1, if_neg c2, if_neg c3, if_neg c4, if_neg c5], by rw [f_X10_copy, if_neg c1, if_neg c2, if_neg c3, if_neg c4, if_neg c5]⟩
        · refine r_bipush (v := (-11 : Int32)) dX10_copy_35 (by decide) ?_
          refine r_iret dX10_copy_37 rfl rfl ?_
          exact ⟨_, rfl, by rw [f_X10_copy, if_neg c1, if_neg c2, if_neg c3, if_pos c4], by rw [f_X10_copy, if_neg c1, if_neg c2, if_neg c3, if_pos c4]⟩
    · refine r_bipush (v := (-2 : Int32)) dX10_copy_14 (by decide) ?_
      refine r_iret dX10_copy_16 rfl rfl ?_
      exact ⟨_, rfl, by rw [f_X10_copy, if_neg c1, if_pos c2], by rw [f_X10_copy, if_neg c1, if_pos c2]⟩
