def f_X10_count_L114 : Nat → MSt → Int32 → Int32 → Int32 → Int32
  | 0, _, _, _, _ => 0
  | n + 1, σ, l1, l2, l3 => (if (σ.1 20) ≤ l3 then l2 else (if (f_X10_ownerOf σ l3) = (-1 : Int32) then (f_X10_count_L114 n σ l1 (l2 + (0 : Int32)) (l3 + (1 : Int32))) else (f_X10_count_L114 n σ l1 (l2 + (1 : Int32)) (l3 + (1 : Int32)))))
set_option maxRecDepth 100000 in
set_option maxHeartbeats 1000000 in
theorem lp_X10_count_114 {g : GC} {E : ME} {d : Nat} {K : Option Value → MSt → Prop} (hE : MEok E) (hd : 5 ≤ d) : ∀ (fuel : Nat) (σ : MSt) (l1 : Int32) (l2 : Int32) (l3 : Int32), MInv σ → Ct l3 24 → 25 - l3.toNatClampNeg < fuel → K (some (.int (f_X10_count_L114 fuel σ l1 l2 l3))) σ → MW g E cX10_count 4 (some FieldType.int) "count" d K 114 [(0, .ref E.2.2), (1, .int l1), (2, .int l2), (3, .int l3)] [] σ := by
  intro fuel
  induction fuel with
  | zero => intro σ l1 l2 l3 i0 i1 hm hK; exact absurd hm (Nat.not_lt_zero _)
  | succ n ih =>
    intro σ l1 l2 l3 i0 i1 hm hK
    refine r_iload_n dX10_count_114 rfl ?_
    refine r_aload_n dX10_count_115 rfl ?_
    refine m_get dX10_count_116 fl_RX10_174 rfl ?_
    refine r_icmp_ge (tgt := 145) dX10_count_119 (by decide) (fun c11 => ?_) (fun c11 => ?_)
    · refine r_iload_n dX10_count_145 rfl ?_
      refine r_iret dX10_count_146 rfl rfl ?_
      exact ⟨_, rfl, by rw [f_X10_count_L114, if_pos c11] at hK; exact hK⟩
    · refine r_iload_n dX10_count_122 rfl ?_
      refine r_aload_n dX10_count_123 rfl ?_
      refine r_iload_n dX10_count_124 rfl ?_
      refine m_callW dX10_count_125 mf_X10_ownerOf ml_RX10_218 (ok_X10_ownerOf (d := d - 1) hE (by omega) _ _ (by with_reducible first | assumption | exact (Ct.up (by decide) i0.nb i1 (by with_reducible assumption)).1)) rfl rfl rfl (Nat.le_of_ble_eq_true rfl) (by omega) ?_
      refine r_iconst (v := (-1 : Int32)) dX10_count_128 (by decide) ?_
      refine r_icmp_eq (tgt := 136) dX10_count_129 (by decide) (fun c12 => ?_) (fun c12 => ?_)
      · refine r_iconst (v := (0 : Int32)) dX10_count_136 (by decide) ?_
        refine r_iadd dX10_count_137 ?_
        refine r_istore_n dX10_count_138 (by decide) ?_
        refine r_iinc2 (w := (1 : Int32)) dX10_count_139 rfl (by decide) (by decide) ?_
        refine r_goto (tgt := 114) dX10_count_142 (by decide) ?_
        refine r_loc (L' := [(0, .ref E.2.2), (1, .int l1), (2, .int (l2 + (0 : Int32))), (3, .int (l3 + (1 : Int32)))]) [2, 3, 1, 0] rfl ?_
        exact ih σ  l1 (l2 + (0 : Int32)) (l3 + (1 : Int32)) (by exact i0) (by exact (Ct.up (by decide) i0.nb i1 (by with_reducible assumption)).2.1) (by have u := (Ct.up (by decide) i0.nb i1 (by with_reducible assumption)).2.2; omega) (by rw [f_X10_count_L114, if_neg c11, if_pos c12] at hK; exact hK)
      · refine r_iconst (v := (1 : Int32)) dX10_count_132 (by decide) ?_
        refine r_goto (tgt := 137) dX10_count_133 (by decide) ?_
        refine r_iadd dX10_count_137 ?_
        refine r_istore_n dX10_count_138 (by decide) ?_
        refine r_iinc2 (w := (1 : Int32)) dX10_count_139 rfl (by decide) (by decide) ?_
        refine r_goto (tgt := 114) dX10_count_142 (by decide) ?_
        refine r_loc (L' := [(0, .ref E.2.2), (1, .int l1), (2, .int (l2 + (1 : Int32))), (3, .int (l3 + (1 : Int32)))]) [2, 3, 1, 0] rfl ?_
        exact ih σ  l1 (l2 + (1 : Int32)) (l3 + (1 : Int32)) (by exact i0) (by exact (Ct.up (by decide) i0.nb i1 (by with_reducible assumption)).2.1) (by have u := (Ct.up (by decide) i0.nb i1 (by with_reducible assumption)).2.2; omega) (by rw [f_X10_count_L114, if_neg c11, if_neg c12] at hK; exact hK)
def f_X10_count_L80 : Nat → MSt → Int32 → Int32 → Int32 → Int32
  | 0, _, _, _, _ => 0
  | n + 1, σ, l1, l2, l3 => (if (σ.1 20) ≤ l3 then l2 else (if (f_X10_isBarred σ l3) = 0 then (f_X10_count_L80 n σ l1 (l2 + (0 : Int32)) (l3 + (1 : Int32))) else (f_X10_count_L80 n σ l1 (l2 + (1 : Int32)) (l3 + (1 : Int32)))))
set_option maxRecDepth 100000 in
set_option maxHeartbeats 1000000 in
theorem lp_X10_count_80 {g : GC} {E : ME} {d : Nat} {K : Option Value → MSt → Prop} (hE : MEok E) (hd : 5 ≤ d) : ∀ (fuel : Nat) (σ : MSt) (l1 : Int32) (l2 : Int32) (l3 : Int32), MInv σ → Ct l3 24 → 25 - l3.toNatClampNeg < fuel → K (some (.int (f_X10_count_L80 fuel σ l1 l2 l3))) σ → MW g E cX10_count 4 (some FieldType.int) "count" d K 80 [(0, .ref E.2.2), (1, .int l1), (2, .int l2), (3, .int l3)] [] σ := by
  intro fuel
  induction fuel with
  | zero => intro σ l1 l2 l3 i0 i1 hm hK; exact absurd hm (Nat.not_lt_zero _)
  | succ n ih =>
    intro σ l1 l2 l3 i0 i1 hm hK
    refine r_iload_n dX10_count_80 rfl ?_
    refine r_aload_n dX10_count_81 rfl ?_
    refine m_get dX10_count_82 fl_RX10_174 rfl ?_
    refine r_icmp_ge (tgt := 110) dX10_count_85 (by decide) (fun c9 => ?_) (fun c9 => ?_)
    · refine r_iload_n dX10_count_110 rfl ?_
      refine r_iret dX10_count_111 rfl rfl ?_
      exact ⟨_, rfl, by rw [f_X10_count_L80, if_pos c9] at hK; exact hK⟩
    · refine r_iload_n dX10_count_88 rfl ?_
      refine r_aload_n dX10_count_89 rfl ?_
      refine r_iload_n dX10_count_90 rfl ?_
      refine m_callW dX10_count_91 mf_X10_isBarred ml_RX10_209 (ok_X10_isBarred (d := d - 1) hE (by omega) _ _ (by with_reducible first | assumption | exact (Ct.up (by decide) i0.nb i1 (by with_reducible assumption)).1) (by with_reducible first | assumption | exact (Ct.up (by decide) i0.nb i1 (by with_reducible assumption)).1)) rfl rfl rfl (Nat.le_of_ble_eq_true rfl) (by omega) ?_
      refine r_if_eq (tgt := 101) dX10_count_94 (by decide) (fun c10 => ?_) (fun c10 => ?_)
      · refine r_iconst (v := (0 : Int32)) dX10_count_101 (by decide) ?_
        refine r_iadd dX10_count_102 ?_
        refine r_istore_n dX10_count_103 (by decide) ?_
        refine r_iinc2 (w := (1 : Int32)) dX10_count_104 rfl (by decide) (by decide) ?_
        refine r_goto (tgt := 80) dX10_count_107 (by decide) ?_
        refine r_loc (L' := [(0, .ref E.2.2), (1, .int l1), (2, .int (l2 + (0 : Int32))), (3, .int (l3 + (1 : Int32)))]) [2, 3, 1, 0] rfl ?_
        exact ih σ  l1 (l2 + (0 : Int32)) (l3 + (1 : Int32)) (by exact i0) (by exact (Ct.up (by decide) i0.nb i1 (by with_reducible assumption)).2.1) (by have u := (Ct.up (by decide) i0.nb i1 (by with_reducible assumption)).2.2; omega) (by rw [f_X10_count_L80, if_neg c9, if_pos c10] at hK; exact hK)
      · refine r_iconst (v := (1 : Int32)) dX10_count_97 (by decide) ?_
        refine r_goto (tgt := 102) dX10_count_98 (by decide) ?_
        refine r_iadd dX10_count_102 ?_
        refine r_istore_n dX10_count_103 (by decide) ?_
        refine r_iinc2 (w := (1 : Int32)) dX10_count_104 rfl (by decide) (by decide) ?_
        refine r_goto (tgt := 80) dX10_count_107 (by decide) ?_
        refine r_loc (L' := [(0, .ref E.2.2), (1, .int l1), (2, .int (l2 + (1 : Int32))), (3, .int (l3 + (1 : Int32)))]) [2, 3, 1, 0] rfl ?_
        exact ih σ  l1 (l2 + (1 : Int32)) (l3 + (1 : Int32)) (by exact i0) (by exact (Ct.up (by decide) i0.nb i1 (by with_reducible assumption)).2.1) (by have u := (Ct.up (by decide) i0.nb i1 (by with_reducible assumption)).2.2; omega) (by rw [f_X10_count_L80, if_neg c9, if_neg c10] at hK; exact hK)
def f_X10_count (σ : MSt) (p1 : Int32) : Int32 := (if p1 = (0 : Int32) then (σ.1 12) else if p1 = (1 : Int32) then (σ.1 20) else if p1 = (2 : Int32) then (σ.1 26) else if p1 = (3 : Int32) then (σ.1 3) else if p1 = (4 : Int32) then (σ.1 6) else if p1 = (5 : Int32) then (σ.1 4) else if p1 = (6 : Int32) then (f_X10_count_L80 (26) σ p1 (0 : Int32) (0 : Int32)) else if p1 = (7 : Int32) then (f_X10_count_L114 (26) σ p1 (0 : Int32) (0 : Int32)) else (-2 : Int32))
set_option maxRecDepth 100000 in
set_option maxHeartbeats 1000000 in
theorem ok_X10_count {g : GC} {E : ME} {d : Nat} (hE : MEok E) (hd : 5 ≤ d) (σ : MSt) (p1 : Int32) (h0 : MInv σ) : MC g E d yX10_count cX10_count 4 (some FieldType.int) [.int p1] (fun v σ' => v = some (.int (f_X10_count σ p1)) ∧ σ' = σ) σ := by
  refine AM.of2 (own := RX10) (nm := "count") (L0 := [(0, .ref E.2.2), (1, .int p1)]) (by decide) rfl rfl (Nat.le_of_ble_eq_true rfl) rfl ?_
  refine r_iconst (v := (0 : Int32)) dX10_count_0 (by decide) ?_
  refine r_istore_n dX10_count_1 (by decide) ?_
  refine r_iload_n dX10_count_2 rfl ?_
  by_cases c1 : p1 = (0 : Int32)
  · refine r_tabK (tgt := 48) dX10_count_3 c1 (by decide) (by decide) rfl (by decide) ?_
    refine r_aload_n dX10_count_48 rfl ?_
    refine m_get dX10_count_49 fl_RX10_146 rfl ?_
    refine r_iret dX10_count_52 rfl rfl ?_
    exact ⟨_, rfl, by rw [f_X10_count, if_pos c1], rfl⟩
  by_cases c2 : p1 = (1 : Int32)
  · refine r_tabK (tgt := 53) dX10_count_3 c2 (by decide) (by decide) rfl (by decide) ?_
    refine r_aload_n dX10_count_53 rfl ?_
    refine m_get dX10_count_54 fl_RX10_174 rfl ?_
    refine r_iret dX10_count_57 rfl rfl ?_
    exact ⟨_, rfl, by rw [f_X10_count, if_neg c1, if_pos c2], rfl⟩
  by_cases c3 : p1 = (2 : Int32)
  · refine r_tabK (tgt := 58) dX10_count_3 c3 (by decide) (by decide) rfl (by decide) ?_
    refine r_aload_n dX10_count_58 rfl ?_
    refine m_get dX10_count_59 fl_RX10_232 rfl ?_
    refine r_iret dX10_count_62 rfl rfl ?_
    exact ⟨_, rfl, by rw [f_X10_count, if_neg c1, if_neg c2, if_pos c3], rfl⟩
  by_cases c4 : p1 = (3 : Int32)
  · refine r_tabK (tgt := 63) dX10_count_3 c4 (by decide) (by decide) rfl (by decide) ?_
    refine r_aload_n dX10_count_63 rfl ?_
    refine m_get dX10_count_64 fl_RX10_141 rfl ?_
    refine r_iret dX10_count_67 rfl rfl ?_
    exact ⟨_, rfl, by rw [f_X10_count, if_neg c1, if_neg c2, if_neg c3, if_pos c4], rfl⟩
  by_cases c5 : p1 = (4 : Int32)
  · refine r_tabK (tgt := 68) dX10_count_3 c5 (by decide) (by decide) rfl (by decide) ?_
    refine r_aload_n dX10_count_68 rfl ?_
    refine m_get dX10_count_69 fl_RX10_240 rfl ?_
    refine r_iret dX10_count_72 rfl rfl ?_
    exact ⟨_, rfl, by rw [f_X10_count, if_neg c1, if_neg c2, if_neg c3, if_neg c4, if_pos c5], rfl⟩
  by_cases c6 : p1 = (5 : Int32)
  · refine r_tabK (tgt := 73) dX10_count_3 c6 (by decide) (by decide) rfl (by decide) ?_
    refine r_aload_n dX10_count_73 rfl ?_
    refine m_get dX10_count_74 fl_RX10_382 rfl ?_
    refine r_iret dX10_count_77 rfl rfl ?_
    exact ⟨_, rfl, by rw [f_X10_count, if_neg c1, if_neg c2, if_neg c3, if_neg c4, if_neg c5, if_pos c6], rfl⟩
  by_cases c7 : p1 = (6 : Int32)
  · refine r_tabK (tgt := 78) dX10_count_3 c7 (by decide) (by decide) rfl (by decide) ?_
    refine r_iconst (v := (0 : Int32)) dX10_count_78 (by decide) ?_
    refine r_istore_n dX10_count_79 (by decide) ?_
    refine r_loc (L' := [(0, .ref E.2.2), (1, .int p1), (2, .int (0 : Int32)), (3, .int (0 : Int32))]) [2, 3, 1, 0] rfl ?_
    exact lp_X10_count_80 hE (by omega) (26) σ p1 (0 : Int32) (0 : Int32) (by first | exact h0 | assumption) (by exact Ct.zero _) (by decide) ⟨by rw [f_X10_count, if_neg c1, if_neg c2, if_neg c3, if_neg c4, if_neg c5, if_neg c6, if_pos c7], rfl⟩
  by_cases c8 : p1 = (7 : Int32)
  · refine r_tabK (tgt := 112) dX10_count_3 c8 (by decide) (by decide) rfl (by decide) ?_
    refine r_iconst (v := (0 : Int32)) dX10_count_112 (by decide) ?_
    refine r_istore_n dX10_count_113 (by decide) ?_
    refine r_loc (L' := [(0, .ref E.2.2), (1, .int p1), (2, .int (0 : Int32)), (3, .int (0 : Int32))]) [2, 3, 1, 0] rfl ?_
    exact lp_X10_count_114 hE (by omega) (26) σ p1 (0 : Int32) (0 : Int32) (by first | exact h0 | assumption) (by exact Ct.zero _) (by decide) ⟨by rw [f_X10_count, if_neg c1, if_neg c2, if_neg c3, if_neg c4, if_neg c5, if_neg c6, if_neg c7, if_pos c8], rfl⟩
  refine r_tabOut (tgt := 147) dX10_count_3 (by have e0 : (p1).toInt ≠ 0 := ne_toInt c1; have e1 : (p1).toInt ≠ 1 := ne_toInt c2; have e2 : (p1).toInt ≠ 2 := ne_toInt c3; have e3 : (p1).toInt ≠ 3 := ne_toInt c4; have e4 : (p1).toInt ≠ 4 := ne_toInt c5; have e5 : (p1).toInt ≠ 5 := ne_toInt c6; have e6 : (p1).toInt ≠ 6 := ne_toInt c7; have e7 : (p1).toInt ≠ 7 := ne_toInt c8; omega) (by decide) ?_
  refine r_bipush (v := (-2 : Int32)) dX10_count_147 (by decide) ?_
  refine r_iret dX10_count_149 rfl rfl ?_
  exact ⟨_, rfl, by rw [f_X10_count, if_neg c1, if_neg c2, if_neg c3, if_neg c4, if_neg c5, if_neg c6, if_neg c7, if_neg c8], rfl⟩
