theorem tg_ct {σ : MSt} (h : MInv σ) {t : Int32} (ht : vp_in t 6) : Ct (12 * t) 72 ∧ Ct (12 * t + σ.2.2 42 (Int32.toNatClampNeg t)) 72 := by
  obtain ⟨j, hj, rfl⟩ := vp_in_of ht (by decide)
  obtain ⟨k, hk, e⟩ := h.given (Int32.toNatClampNeg (nI j))
  have e1 : (12 : Int32) * nI j = nI (12 * j) := pk_mul 12 j
  rw [e, e1, nI_add]
  exact ⟨⟨12 * j, by omega, rfl⟩, ⟨12 * j + k, by omega, rfl⟩⟩
theorem isTongue_in {x : Int32} (c : ¬ f_X10_isTongue x = 0) : vp_in x 6 := in_k (a' := 0) (b' := 5) rfl rfl rfl (by decide) rfl c

def f_X10_tongue_L39 : Nat → MSt → Int32 → Int32 → Int32 → Int32 → Int32 → Int32 → Int32 → Int32
  | 0, _, _, _, _, _, _, _, _ => 0
  | n + 1, σ, l1, l2, l3, l4, l5, l6, l7 => (if (((12 : Int32) * l1) + (σ.2.2 42 (Int32.toNatClampNeg l1))) ≤ l7 then (if l2 = 0 then l3 else (if l2 = (1 : Int32) then l4 else (if l2 = (2 : Int32) then l5 else l6))) else (if (σ.2.2 44 (Int32.toNatClampNeg l7)) = 0 then (if (σ.2.2 45 (Int32.toNatClampNeg l7)) = (f_X10_withinOf σ (σ.2.2 43 (Int32.toNatClampNeg l7))) then (f_X10_tongue_L39 n σ l1 l2 (l3 + (1 : Int32)) (l4 + (1 : Int32)) l5 l6 (l7 + (1 : Int32))) else (f_X10_tongue_L39 n σ l1 l2 (l3 + (0 : Int32)) (l4 + (1 : Int32)) l5 l6 (l7 + (1 : Int32)))) else (if (f_X10_withinOf σ (σ.2.2 43 (Int32.toNatClampNeg l7))) = (σ.2.2 17 (Int32.toNatClampNeg (σ.2.2 43 (Int32.toNatClampNeg l7)))) then (f_X10_tongue_L39 n σ l1 l2 l3 l4 l5 l6 (l7 + (1 : Int32))) else (if (σ.2.2 45 (Int32.toNatClampNeg l7)) = (σ.2.2 17 (Int32.toNatClampNeg (σ.2.2 43 (Int32.toNatClampNeg l7)))) then (f_X10_tongue_L39 n σ l1 l2 l3 l4 (l5 + (1 : Int32)) (l6 + (1 : Int32)) (l7 + (1 : Int32))) else (f_X10_tongue_L39 n σ l1 l2 l3 l4 (l5 + (0 : Int32)) (l6 + (1 : Int32)) (l7 + (1 : Int32)))))))
set_option maxRecDepth 100000 in
set_option maxHeartbeats 1000000 in
theorem lp_X10_tongue_39 {g : GC} {E : ME} {d : Nat} {K : Option Value → MSt → Prop} (hE : MEok E) (hd : 2 ≤ d) : ∀ (fuel : Nat) (σ : MSt) (l1 : Int32) (l2 : Int32) (l3 : Int32) (l4 : Int32) (l5 : Int32) (l6 : Int32) (l7 : Int32), MInv σ → vp_in l1 6 → Ct l7 72 → 73 - l7.toNatClampNeg < fuel → K (some (.int (f_X10_tongue_L39 fuel σ l1 l2 l3 l4 l5 l6 l7))) σ → MW g E cX10_tongue 9 (some FieldType.int) "tongue" d K 39 [(0, .ref E.2.2), (1, .int l1), (2, .int l2), (3, .int l3), (4, .int l4), (5, .int l5), (6, .int l6), (7, .int l7)] [] σ := by
  intro fuel
  induction fuel with
  | zero => intro σ l1 l2 l3 l4 l5 l6 l7 i0 i1 i2 hm hK; exact absurd hm (Nat.not_lt_zero _)
  | succ n ih =>
    intro σ l1 l2 l3 l4 l5 l6 l7 i0 i1 i2 hm hK
    refine r_iload dX10_tongue_39 rfl ?_
    refine r_bipush (v := (12 : Int32)) dX10_tongue_41 (by decide) ?_
    refine r_iload_n dX10_tongue_43 rfl ?_
    refine r_imul dX10_tongue_44 ?_
    refine r_aload_n dX10_tongue_45 rfl ?_
    refine m_get dX10_tongue_46 fl_RX10_74 rfl ?_
    refine r_iload_n dX10_tongue_49 rfl ?_
    refine m_iald (k := 42) (N := 6) hE (by decide) rfl rfl dX10_tongue_50 (by with_reducible first | assumption | exact isTongue_in (by with_reducible assumption) | exact i0.gb _ | exact (Ct.up (by decide) (tg_ct i0 i1).2 i2 (by with_reducible assumption)).1) ?_
    refine r_iadd dX10_tongue_51 ?_
    refine r_icmp_ge (tgt := 156) dX10_tongue_52 (by decide) (fun c3 => ?_) (fun c3 => ?_)
    · refine r_iload_n dX10_tongue_156 rfl ?_
      refine r_if_ne (tgt := 164) dX10_tongue_157 (by decide) (fun c4 => ?_) (fun c4 => ?_)
      · refine r_iload_n dX10_tongue_164 rfl ?_
        refine r_iconst (v := (1 : Int32)) dX10_tongue_165 (by decide) ?_
        refine r_icmp_ne (tgt := 174) dX10_tongue_166 (by decide) (fun c5 => ?_) (fun c5 => ?_)
        · refine r_iload_n dX10_tongue_174 rfl ?_
          refine r_iconst (v := (2 : Int32)) dX10_tongue_175 (by decide) ?_
          refine r_icmp_ne (tgt := 184) dX10_tongue_176 (by decide) (fun c6 => ?_) (fun c6 => ?_)
          · refine r_iload dX10_tongue_184 rfl ?_
            refine r_iret dX10_tongue_186 rfl rfl ?_
            exact ⟨_, rfl, by rw [f_X10_tongue_L39, if_pos c3, if_neg c4, if_neg c5, if_neg c6] at hK; exact hK⟩
          · refine r_iload dX10_tongue_179 rfl ?_
            refine r_goto (tgt := 186) dX10_tongue_181 (by decide) ?_
            refine r_iret dX10_tongue_186 rfl rfl ?_
            exact ⟨_, rfl, by rw [f_X10_tongue_L39, if_pos c3, if_neg c4, if_neg c5, if_pos c6] at hK; exact hK⟩
        · refine r_iload dX10_tongue_169 rfl ?_
          refine r_goto (tgt := 186) dX10_tongue_171 (by decide) ?_
          refine r_iret dX10_tongue_186 rfl rfl ?_
          exact ⟨_, rfl, by rw [f_X10_tongue_L39, if_pos c3, if_neg c4, if_pos c5] at hK; exact hK⟩
      · refine r_iload_n dX10_tongue_160 rfl ?_
        refine r_goto (tgt := 186) dX10_tongue_161 (by decide) ?_
        refine r_iret dX10_tongue_186 rfl rfl ?_
        exact ⟨_, rfl, by rw [f_X10_tongue_L39, if_pos c3, if_pos c4] at hK; exact hK⟩
    · refine r_aload_n dX10_tongue_55 rfl ?_
      refine m_get dX10_tongue_56 fl_RX10_77 rfl ?_
      refine r_iload dX10_tongue_59 rfl ?_
      refine m_iald (k := 43) (N := 72) hE (by decide) rfl rfl dX10_tongue_61 (by with_reducible first | assumption | exact isTongue_in (by with_reducible assumption) | exact i0.gb _ | exact (Ct.up (by decide) (tg_ct i0 i1).2 i2 (by with_reducible assumption)).1) ?_
      refine r_istore dX10_tongue_62 (by decide) ?_
      refine r_aload_n dX10_tongue_64 rfl ?_
      refine m_get dX10_tongue_65 fl_RX10_80 rfl ?_
      refine r_iload dX10_tongue_68 rfl ?_
      refine m_iald (k := 44) (N := 72) hE (by decide) rfl rfl dX10_tongue_70 (by with_reducible first | assumption | exact isTongue_in (by with_reducible assumption) | exact i0.gb _ | exact (Ct.up (by decide) (tg_ct i0 i1).2 i2 (by with_reducible assumption)).1) ?_
      refine r_if_ne (tgt := 104) dX10_tongue_71 (by decide) (fun c7 => ?_) (fun c7 => ?_)
      · refine r_aload_n dX10_tongue_104 rfl ?_
        refine r_iload dX10_tongue_105 rfl ?_
        refine m_callW dX10_tongue_107 mf_X10_withinOf ml_RX10_422 (ok_X10_withinOf (d := d - 1) hE (by omega) _ _ (by with_reducible first | assumption | exact isTongue_in (by with_reducible assumption) | exact i0.gb _ | exact (Ct.up (by decide) (tg_ct i0 i1).2 i2 (by with_reducible assumption)).1) (by with_reducible first | assumption | exact isTongue_in (by with_reducible assumption) | exact i0.gb _ | exact (Ct.up (by decide) (tg_ct i0 i1).2 i2 (by with_reducible assumption)).1)) rfl rfl rfl (Nat.le_of_ble_eq_true rfl) (by omega) ?_
        refine r_aload_n dX10_tongue_110 rfl ?_
        refine m_get dX10_tongue_111 fl_RX10_50 rfl ?_
        refine r_iload dX10_tongue_114 rfl ?_
        refine m_iald (k := 17) (N := 24) hE (by decide) rfl rfl dX10_tongue_116 (by with_reducible first | assumption | exact isTongue_in (by with_reducible assumption) | exact i0.gb _ | exact (Ct.up (by decide) (tg_ct i0 i1).2 i2 (by with_reducible assumption)).1) ?_
        refine r_icmp_eq (tgt := 150) dX10_tongue_117 (by decide) (fun c8 => ?_) (fun c8 => ?_)
        · refine r_iinc2 (w := (1 : Int32)) dX10_tongue_150 rfl (by decide) (by decide) ?_
          refine r_goto (tgt := 39) dX10_tongue_153 (by decide) ?_
          refine r_loc (L' := [(0, .ref E.2.2), (1, .int l1), (2, .int l2), (3, .int l3), (4, .int l4), (5, .int l5), (6, .int l6), (7, .int (l7 + (1 : Int32)))]) [2, 3, 4, 5, 6, 7, 8, 0] rfl ?_
          exact ih σ  l1 l2 l3 l4 l5 l6 (l7 + (1 : Int32)) (by exact i0) (by exact i1) (by exact (Ct.up (by decide) (tg_ct i0 i1).2 i2 (by with_reducible assumption)).2.1) (by have u := (Ct.up (by decide) (tg_ct i0 i1).2 i2 (by with_reducible assumption)).2.2; omega) (by rw [f_X10_tongue_L39, if_neg c3, if_neg c7, if_pos c8] at hK; exact hK)
        · refine r_iinc2 (w := (1 : Int32)) dX10_tongue_120 rfl (by decide) (by decide) ?_
          refine r_iload dX10_tongue_123 rfl ?_
          refine r_aload_n dX10_tongue_125 rfl ?_
          refine m_get dX10_tongue_126 fl_RX10_83 rfl ?_
          refine r_iload dX10_tongue_129 rfl ?_
          refine m_iald (k := 45) (N := 72) hE (by decide) rfl rfl dX10_tongue_131 (by with_reducible first | assumption | exact isTongue_in (by with_reducible assumption) | exact i0.gb _ | exact (Ct.up (by decide) (tg_ct i0 i1).2 i2 (by with_reducible assumption)).1) ?_
          refine r_aload_n dX10_tongue_132 rfl ?_
          refine m_get dX10_tongue_133 fl_RX10_50 rfl ?_
          refine r_iload dX10_tongue_136 rfl ?_
          refine m_iald (k := 17) (N := 24) hE (by decide) rfl rfl dX10_tongue_138 (by with_reducible first | assumption | exact isTongue_in (by with_reducible assumption) | exact i0.gb _ | exact (Ct.up (by decide) (tg_ct i0 i1).2 i2 (by with_reducible assumption)).1) ?_
          refine r_icmp_ne (tgt := 146) dX10_tongue_139 (by decide) (fun c9 => ?_) (fun c9 => ?_)
          · refine r_iconst (v := (0 : Int32)) dX10_tongue_146 (by decide) ?_
            refine r_iadd dX10_tongue_147 ?_
            refine r_istore dX10_tongue_148 (by decide) ?_
            refine r_iinc2 (w := (1 : Int32)) dX10_tongue_150 rfl (by decide) (by decide) ?_
            refine r_goto (tgt := 39) dX10_tongue_153 (by decide) ?_
            refine r_loc (L' := [(0, .ref E.2.2), (1, .int l1), (2, .int l2), (3, .int l3), (4, .int l4), (5, .int (l5 + (0 : Int32))), (6, .int (l6 + (1 : Int32))), (7, .int (l7 + (1 : Int32)))]) [4, 5, 6, 7, 8, 1, 2, 0] rfl ?_
            exact ih σ  l1 l2 l3 l4 (l5 + (0 : Int32)) (l6 + (1 : Int32)) (l7 + (1 : Int32)) (by exact i0) (by exact i1) (by exact (Ct.up (by decide) (tg_ct i0 i1).2 i2 (by with_reducible assumption)).2.1) (by have u := (Ct.up (by decide) (tg_ct i0 i1).2 i2 (by with_reducible assumption)).2.2; omega) (by rw [f_X10_tongue_L39, if_neg c3, if_neg c7, if_neg c8, if_neg c9] at hK; exact hK)
          · refine r_iconst (v := (1 : Int32)) dX10_tongue_142 (by decide) ?_
            refine r_goto (tgt := 147) dX10_tongue_143 (by decide) ?_
            refine r_iadd dX10_tongue_147 ?_
            refine r_istore dX10_tongue_148 (by decide) ?_
            refine r_iinc2 (w := (1 : Int32)) dX10_tongue_150 rfl (by decide) (by decide) ?_
            refine r_goto (tgt := 39) dX10_tongue_153 (by decide) ?_
            refine r_loc (L' := [(0, .ref E.2.2), (1, .int l1), (2, .int l2), (3, .int l3), (4, .int l4), (5, .int (l5 + (1 : Int32))), (6, .int (l6 + (1 : Int32))), (7, .int (l7 + (1 : Int32)))]) [4, 5, 6, 7, 8, 1, 2, 0] rfl ?_
            exact ih σ  l1 l2 l3 l4 (l5 + (1 : Int32)) (l6 + (1 : Int32)) (l7 + (1 : Int32)) (by exact i0) (by exact i1) (by exact (Ct.up (by decide) (tg_ct i0 i1).2 i2 (by with_reducible assumption)).2.1) (by have u := (Ct.up (by decide) (tg_ct i0 i1).2 i2 (by with_reducible assumption)).2.2; omega) (by rw [f_X10_tongue_L39, if_neg c3, if_neg c7, if_neg c8, if_pos c9] at hK; exact hK)
      · refine r_iinc2 (w := (1 : Int32)) dX10_tongue_74 rfl (by decide) (by decide) ?_
        refine r_iload_n dX10_tongue_77 rfl ?_
        refine r_aload_n dX10_tongue_78 rfl ?_
        refine m_get dX10_tongue_79 fl_RX10_83 rfl ?_
        refine r_iload dX10_tongue_82 rfl ?_
        refine m_iald (k := 45) (N := 72) hE (by decide) rfl rfl dX10_tongue_84 (by with_reducible first | assumption | exact isTongue_in (by with_reducible assumption) | exact i0.gb _ | exact (Ct.up (by decide) (tg_ct i0 i1).2 i2 (by with_reducible assumption)).1) ?_
        refine r_aload_n dX10_tongue_85 rfl ?_
        refine r_iload dX10_tongue_86 rfl ?_
        refine m_callW dX10_tongue_88 mf_X10_withinOf ml_RX10_422 (ok_X10_withinOf (d := d - 1) hE (by omega) _ _ (by with_reducible first | assumption | exact isTongue_in (by with_reducible assumption) | exact i0.gb _ | exact (Ct.up (by decide) (tg_ct i0 i1).2 i2 (by with_reducible assumption)).1) (by with_reducible first | assumption | exact isTongue_in (by with_reducible assumption) | exact i0.gb _ | exact (Ct.up (by decide) (tg_ct i0 i1).2 i2 (by with_reducible assumption)).1)) rfl rfl rfl (Nat.le_of_ble_eq_true rfl) (by omega) ?_
        refine r_icmp_ne (tgt := 98) dX10_tongue_91 (by decide) (fun c10 => ?_) (fun c10 => ?_)
        · refine r_iconst (v := (0 : Int32)) dX10_tongue_98 (by decide) ?_
          refine r_iadd dX10_tongue_99 ?_
          refine r_istore_n dX10_tongue_100 (by decide) ?_
          refine r_goto (tgt := 150) dX10_tongue_101 (by decide) ?_
          refine r_iinc2 (w := (1 : Int32)) dX10_tongue_150 rfl (by decide) (by decide) ?_
          refine r_goto (tgt := 39) dX10_tongue_153 (by decide) ?_
          refine r_loc (L' := [(0, .ref E.2.2), (1, .int l1), (2, .int l2), (3, .int (l3 + (0 : Int32))), (4, .int (l4 + (1 : Int32))), (5, .int l5), (6, .int l6), (7, .int (l7 + (1 : Int32)))]) [4, 5, 6, 1, 2, 7, 8, 0] rfl ?_
          exact ih σ  l1 l2 (l3 + (0 : Int32)) (l4 + (1 : Int32)) l5 l6 (l7 + (1 : Int32)) (by exact i0) (by exact i1) (by exact (Ct.up (by decide) (tg_ct i0 i1).2 i2 (by with_reducible assumption)).2.1) (by have u := (Ct.up (by decide) (tg_ct i0 i1).2 i2 (by with_reducible assumption)).2.2; omega) (by rw [f_X10_tongue_L39, if_neg c3, if_pos c7, if_neg c10] at hK; exact hK)
        · refine r_iconst (v := (1 : Int32)) dX10_tongue_94 (by decide) ?_
          refine r_goto (tgt := 99) dX10_tongue_95 (by decide) ?_
          refine r_iadd dX10_tongue_99 ?_
          refine r_istore_n dX10_tongue_100 (by decide) ?_
          refine r_goto (tgt := 150) dX10_tongue_101 (by decide) ?_
          refine r_iinc2 (w := (1 : Int32)) dX10_tongue_150 rfl (by decide) (by decide) ?_
          refine r_goto (tgt := 39) dX10_tongue_153 (by decide) ?_
          refine r_loc (L' := [(0, .ref E.2.2), (1, .int l1), (2, .int l2), (3, .int (l3 + (1 : Int32))), (4, .int (l4 + (1 : Int32))), (5, .int l5), (6, .int l6), (7, .int (l7 + (1 : Int32)))]) [4, 5, 6, 1, 2, 7, 8, 0] rfl ?_
          exact ih σ  l1 l2 (l3 + (1 : Int32)) (l4 + (1 : Int32)) l5 l6 (l7 + (1 : Int32)) (by exact i0) (by exact i1) (by exact (Ct.up (by decide) (tg_ct i0 i1).2 i2 (by with_reducible assumption)).2.1) (by have u := (Ct.up (by decide) (tg_ct i0 i1).2 i2 (by with_reducible assumption)).2.2; omega) (by rw [f_X10_tongue_L39, if_neg c3, if_pos c7, if_pos c10] at hK; exact hK)
def f_X10_tongue (σ : MSt) (p1 : Int32) (p2 : Int32) : Int32 := (if (f_X10_isTongue p1) = 0 then (-2 : Int32) else (if (f_X10_in (Int32.toInt64 p2) (0 : Int64) (3 : Int64)) = 0 then (-2 : Int32) else (f_X10_tongue_L39 (74) σ p1 p2 (0 : Int32) (0 : Int32) (0 : Int32) (0 : Int32) ((12 : Int32) * p1))))
set_option maxRecDepth 100000 in
set_option maxHeartbeats 1000000 in
theorem ok_X10_tongue {g : GC} {E : ME} {d : Nat} (hE : MEok E) (hd : 2 ≤ d) (σ : MSt) (p1 : Int32) (p2 : Int32) (h0 : MInv σ) : MC g E d yX10_tongue cX10_tongue 9 (some FieldType.int) [.int p1, .int p2] (fun v σ' => v = some (.int (f_X10_tongue σ p1 p2)) ∧ σ' = σ) σ := by
  refine AM.of2 (own := RX10) (nm := "tongue") (L0 := [(0, .ref E.2.2), (1, .int p1), (2, .int p2)]) (by decide) rfl rfl (Nat.le_of_ble_eq_true rfl) rfl ?_
  refine r_iload_n dX10_tongue_0 rfl ?_
  refine m_callS dX10_tongue_1 mf_X10_isTongue ml_RX10_419 (ok_X10_isTongue (d := d - 1) (by omega) _) rfl rfl (Nat.le_of_ble_eq_true rfl) (by omega) ?_
  refine r_if_eq (tgt := 19) dX10_tongue_4 (by decide) (fun c1 => ?_) (fun c1 => ?_)
  · refine r_bipush (v := (-2 : Int32)) dX10_tongue_19 (by decide) ?_
    refine r_iret dX10_tongue_21 rfl rfl ?_
    exact ⟨_, rfl, by rw [f_X10_tongue, if_pos c1], rfl⟩
  · refine r_iload_n dX10_tongue_7 rfl ?_
    refine r_i2l dX10_tongue_8 ?_
    refine r_lconst (v := (0 : Int64)) dX10_tongue_9 (by decide) ?_
    refine r_ldc2 dX10_tongue_10 kc_RX10_170 ?_
    refine m_callS dX10_tongue_13 mf_X10_in ml_RX10_149 (ok_X10_in (d := d - 1) (by omega) _ _ _) rfl rfl (Nat.le_of_ble_eq_true rfl) (by omega) ?_
    refine r_if_ne (tgt := 22) dX10_tongue_16 (by decide) (fun c2 => ?_) (fun c2 => ?_)
    · refine r_iconst (v := (0 : Int32)) dX10_tongue_22 (by decide) ?_
      refine r_istore_n dX10_tongue_23 (by decide) ?_
      refine r_iconst (v := (0 : Int32)) dX10_tongue_24 (by decide) ?_
      refine r_istore dX10_tongue_25 (by decide) ?_
      refine r_iconst (v := (0 : Int32)) dX10_tongue_27 (by decide) ?_
      refine r_istore dX10_tongue_28 (by decide) ?_
      refine r_iconst (v := (0 : Int32)) dX10_tongue_30 (by decide) ?_
      refine r_istore dX10_tongue_31 (by decide) ?_
      refine r_bipush (v := (12 : Int32)) dX10_tongue_33 (by decide) ?_
      refine r_iload_n dX10_tongue_35 rfl ?_
      refine r_imul dX10_tongue_36 ?_
      refine r_istore dX10_tongue_37 (by decide) ?_
      refine r_loc (L' := [(0, .ref E.2.2), (1, .int p1), (2, .int p2), (3, .int (0 : Int32)), (4, .int (0 : Int32)), (5, .int (0 : Int32)), (6, .int (0 : Int32)), (7, .int ((12 : Int32) * p1))]) [5, 6, 7, 4, 3, 2, 1, 0] rfl ?_
      exact lp_X10_tongue_39 hE (by omega) (74) σ p1 p2 (0 : Int32) (0 : Int32) (0 : Int32) (0 : Int32) ((12 : Int32) * p1) (by exact h0) (by exact isTongue_in (by with_reducible assumption)) (by exact (tg_ct h0 (isTongue_in (by with_reducible assumption))).1) (by omega) ⟨by rw [f_X10_tongue, if_neg c1, if_neg c2], rfl⟩
    · refine r_bipush (v := (-2 : Int32)) dX10_tongue_19 (by decide) ?_
      refine r_iret dX10_tongue_21 rfl rfl ?_
      exact ⟨_, rfl, by rw [f_X10_tongue, if_neg c1, if_pos c2], rfl⟩
