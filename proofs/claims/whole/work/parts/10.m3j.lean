def f_X10_saw_L23 : Nat → MSt → Int32 → Int32 → Int32 → Int32
  | 0, _, _, _, _ => 0
  | n + 1, σ, l1, l2, l3 => (if (3 : Int32) ≤ l3 then (if l2 = 0 then (0 : Int32) else (1 : Int32)) else (if l2 = 0 then (if (f_X10_bars σ (σ.2.2 21 (Int32.toNatClampNeg l1)) l3) = 0 then (f_X10_saw_L23 n σ l1 (0 : Int32) (l3 + (1 : Int32))) else (if (σ.2.2 25 (Int32.toNatClampNeg l1)) < (σ.2.2 15 (Int32.toNatClampNeg l3)) then (f_X10_saw_L23 n σ l1 (0 : Int32) (l3 + (1 : Int32))) else (f_X10_saw_L23 n σ l1 (1 : Int32) (l3 + (1 : Int32))))) else (f_X10_saw_L23 n σ l1 (1 : Int32) (l3 + (1 : Int32)))))
set_option maxRecDepth 100000 in
set_option maxHeartbeats 1000000 in
theorem lp_X10_saw_23 {g : GC} {E : ME} {d : Nat} {K : Option Value → MSt → Prop} (hE : MEok E) (hd : 3 ≤ d) : ∀ (fuel : Nat) (σ : MSt) (l1 : Int32) (l2 : Int32) (l3 : Int32), MInv σ → vp_in l1 40 → Ct l3 3 → 4 - l3.toNatClampNeg < fuel → K (some (.int (f_X10_saw_L23 fuel σ l1 l2 l3))) σ → MW g E cX10_saw 4 (some FieldType.int) "saw" d K 23 [(0, .ref E.2.2), (1, .int l1), (2, .int l2), (3, .int l3)] [] σ := by
  intro fuel
  induction fuel with
  | zero => intro σ l1 l2 l3 i0 i1 i2 hm hK; exact absurd hm (Nat.not_lt_zero _)
  | succ n ih =>
    intro σ l1 l2 l3 i0 i1 i2 hm hK
    refine r_iload_n dX10_saw_23 rfl ?_
    refine r_iconst (v := (3 : Int32)) dX10_saw_24 (by decide) ?_
    refine r_icmp_ge (tgt := 73) dX10_saw_25 (by decide) (fun c2 => ?_) (fun c2 => ?_)
    · refine r_iload_n dX10_saw_73 rfl ?_
      refine r_if_eq (tgt := 81) dX10_saw_74 (by decide) (fun c3 => ?_) (fun c3 => ?_)
      · refine r_iconst (v := (0 : Int32)) dX10_saw_81 (by decide) ?_
        refine r_iret dX10_saw_82 rfl rfl ?_
        exact ⟨_, rfl, by rw [f_X10_saw_L23, if_pos c2, if_pos c3] at hK; exact hK⟩
      · refine r_iconst (v := (1 : Int32)) dX10_saw_77 (by decide) ?_
        refine r_goto (tgt := 82) dX10_saw_78 (by decide) ?_
        refine r_iret dX10_saw_82 rfl rfl ?_
        exact ⟨_, rfl, by rw [f_X10_saw_L23, if_pos c2, if_neg c3] at hK; exact hK⟩
    · refine r_iload_n dX10_saw_28 rfl ?_
      refine r_if_ne (tgt := 61) dX10_saw_29 (by decide) (fun c4 => ?_) (fun c4 => ?_)
      · refine r_iconst (v := (1 : Int32)) dX10_saw_61 (by decide) ?_
        refine r_goto (tgt := 66) dX10_saw_62 (by decide) ?_
        refine r_istore_n dX10_saw_66 (by decide) ?_
        refine r_iinc2 (w := (1 : Int32)) dX10_saw_67 rfl (by decide) (by decide) ?_
        refine r_goto (tgt := 23) dX10_saw_70 (by decide) ?_
        refine r_loc (L' := [(0, .ref E.2.2), (1, .int l1), (2, .int (1 : Int32)), (3, .int (l3 + (1 : Int32)))]) [2, 3, 1, 0] rfl ?_
        exact ih σ  l1 (1 : Int32) (l3 + (1 : Int32)) (by exact i0) (by exact i1) (by exact (Ct.up (by decide) ct3 i2 (by with_reducible assumption)).2.1) (by have u := (Ct.up (by decide) ct3 i2 (by with_reducible assumption)).2.2; omega) (by rw [f_X10_saw_L23, if_neg c2, if_neg c4] at hK; exact hK)
      · refine r_aload_n dX10_saw_32 rfl ?_
        refine r_aload_n dX10_saw_33 rfl ?_
        refine m_get dX10_saw_34 fl_RX10_59 rfl ?_
        refine r_iload_n dX10_saw_37 rfl ?_
        refine m_iald (k := 21) (N := 40) hE (by decide) rfl rfl dX10_saw_38 (by with_reducible first | assumption | exact in_ct' (by decide) h0.ns (by with_reducible assumption) | exact i0.sb _ | exact Ct.p3 i2 (by with_reducible assumption) | exact Ct.p3' i2 (by with_reducible assumption)) ?_
        refine r_iload_n dX10_saw_39 rfl ?_
        refine m_callW dX10_saw_40 mf_X10_bars ml_RX10_195 (ok_X10_bars (d := d - 1) hE (by omega) _ _ _ (by with_reducible first | assumption | exact in_ct' (by decide) h0.ns (by with_reducible assumption) | exact i0.sb _ | exact Ct.p3 i2 (by with_reducible assumption) | exact Ct.p3' i2 (by with_reducible assumption)) (by with_reducible first | assumption | exact in_ct' (by decide) h0.ns (by with_reducible assumption) | exact i0.sb _ | exact Ct.p3 i2 (by with_reducible assumption) | exact Ct.p3' i2 (by with_reducible assumption)) (by with_reducible first | assumption | exact in_ct' (by decide) h0.ns (by with_reducible assumption) | exact i0.sb _ | exact Ct.p3 i2 (by with_reducible assumption) | exact Ct.p3' i2 (by with_reducible assumption))) rfl rfl rfl (Nat.le_of_ble_eq_true rfl) (by omega) ?_
        refine r_if_eq (tgt := 65) dX10_saw_43 (by decide) (fun c5 => ?_) (fun c5 => ?_)
        · refine r_iconst (v := (0 : Int32)) dX10_saw_65 (by decide) ?_
          refine r_istore_n dX10_saw_66 (by decide) ?_
          refine r_iinc2 (w := (1 : Int32)) dX10_saw_67 rfl (by decide) (by decide) ?_
          refine r_goto (tgt := 23) dX10_saw_70 (by decide) ?_
          refine r_loc (L' := [(0, .ref E.2.2), (1, .int l1), (2, .int (0 : Int32)), (3, .int (l3 + (1 : Int32)))]) [2, 3, 1, 0] rfl ?_
          exact ih σ  l1 (0 : Int32) (l3 + (1 : Int32)) (by exact i0) (by exact i1) (by exact (Ct.up (by decide) ct3 i2 (by with_reducible assumption)).2.1) (by have u := (Ct.up (by decide) ct3 i2 (by with_reducible assumption)).2.2; omega) (by rw [f_X10_saw_L23, if_neg c2, if_pos c4, if_pos c5] at hK; exact hK)
        · refine r_aload_n dX10_saw_46 rfl ?_
          refine m_get dX10_saw_47 fl_RX10_44 rfl ?_
          refine r_iload_n dX10_saw_50 rfl ?_
          refine m_iald (k := 15) (N := 3) hE (by decide) rfl rfl dX10_saw_51 (by with_reducible first | assumption | exact in_ct' (by decide) h0.ns (by with_reducible assumption) | exact i0.sb _ | exact Ct.p3 i2 (by with_reducible assumption) | exact Ct.p3' i2 (by with_reducible assumption)) ?_
          refine r_aload_n dX10_saw_52 rfl ?_
          refine m_get dX10_saw_53 fl_RX10_71 rfl ?_
          refine r_iload_n dX10_saw_56 rfl ?_
          refine m_iald (k := 25) (N := 40) hE (by decide) rfl rfl dX10_saw_57 (by with_reducible first | assumption | exact in_ct' (by decide) h0.ns (by with_reducible assumption) | exact i0.sb _ | exact Ct.p3 i2 (by with_reducible assumption) | exact Ct.p3' i2 (by with_reducible assumption)) ?_
          refine r_icmp_gt (tgt := 65) dX10_saw_58 (by decide) (fun c6 => ?_) (fun c6 => ?_)
          · refine r_iconst (v := (0 : Int32)) dX10_saw_65 (by decide) ?_
            refine r_istore_n dX10_saw_66 (by decide) ?_
            refine r_iinc2 (w := (1 : Int32)) dX10_saw_67 rfl (by decide) (by decide) ?_
            refine r_goto (tgt := 23) dX10_saw_70 (by decide) ?_
            refine r_loc (L' := [(0, .ref E.2.2), (1, .int l1), (2, .int (0 : Int32)), (3, .int (l3 + (1 : Int32)))]) [2, 3, 1, 0] rfl ?_
            exact ih σ  l1 (0 : Int32) (l3 + (1 : Int32)) (by exact i0) (by exact i1) (by exact (Ct.up (by decide) ct3 i2 (by with_reducible assumption)).2.1) (by have u := (Ct.up (by decide) ct3 i2 (by with_reducible assumption)).2.2; omega) (by rw [f_X10_saw_L23, if_neg c2, if_pos c4, if_neg c5, if_pos c6] at hK; exact hK)
          · refine r_iconst (v := (1 : Int32)) dX10_saw_61 (by decide) ?_
            refine r_goto (tgt := 66) dX10_saw_62 (by decide) ?_
            refine r_istore_n dX10_saw_66 (by decide) ?_
            refine r_iinc2 (w := (1 : Int32)) dX10_saw_67 rfl (by decide) (by decide) ?_
            refine r_goto (tgt := 23) dX10_saw_70 (by decide) ?_
            refine r_loc (L' := [(0, .ref E.2.2), (1, .int l1), (2, .int (1 : Int32)), (3, .int (l3 + (1 : Int32)))]) [2, 3, 1, 0] rfl ?_
            exact ih σ  l1 (1 : Int32) (l3 + (1 : Int32)) (by exact i0) (by exact i1) (by exact (Ct.up (by decide) ct3 i2 (by with_reducible assumption)).2.1) (by have u := (Ct.up (by decide) ct3 i2 (by with_reducible assumption)).2.2; omega) (by rw [f_X10_saw_L23, if_neg c2, if_pos c4, if_neg c5, if_neg c6] at hK; exact hK)
def f_X10_saw (σ : MSt) (p1 : Int32) : Int32 := (if (f_X10_in (Int32.toInt64 p1) (0 : Int64) (Int32.toInt64 ((σ.1 26) - (1 : Int32)))) = 0 then (-2 : Int32) else (f_X10_saw_L23 (5) σ p1 (0 : Int32) (0 : Int32)))
set_option maxRecDepth 100000 in
set_option maxHeartbeats 1000000 in
theorem ok_X10_saw {g : GC} {E : ME} {d : Nat} (hE : MEok E) (hd : 3 ≤ d) (σ : MSt) (p1 : Int32) (h0 : MInv σ) : MC g E d yX10_saw cX10_saw 4 (some FieldType.int) [.int p1] (fun v σ' => v = some (.int (f_X10_saw σ p1)) ∧ σ' = σ) σ := by
  refine AM.of2 (own := RX10) (nm := "saw") (L0 := [(0, .ref E.2.2), (1, .int p1)]) (by decide) rfl rfl (Nat.le_of_ble_eq_true rfl) rfl ?_
  refine r_iload_n dX10_saw_0 rfl ?_
  refine r_i2l dX10_saw_1 ?_
  refine r_lconst (v := (0 : Int64)) dX10_saw_2 (by decide) ?_
  refine r_aload_n dX10_saw_3 rfl ?_
  refine m_get dX10_saw_4 fl_RX10_232 rfl ?_
  refine r_iconst (v := (1 : Int32)) dX10_saw_7 (by decide) ?_
  refine r_isub dX10_saw_8 ?_
  refine r_i2l dX10_saw_9 ?_
  refine m_callS dX10_saw_10 mf_X10_in ml_RX10_149 (ok_X10_in (d := d - 1) (by omega) _ _ _) rfl rfl (Nat.le_of_ble_eq_true rfl) (by omega) ?_
  refine r_if_ne (tgt := 19) dX10_saw_13 (by decide) (fun c1 => ?_) (fun c1 => ?_)
  · refine r_iconst (v := (0 : Int32)) dX10_saw_19 (by decide) ?_
    refine r_istore_n dX10_saw_20 (by decide) ?_
    refine r_iconst (v := (0 : Int32)) dX10_saw_21 (by decide) ?_
    refine r_istore_n dX10_saw_22 (by decide) ?_
    refine r_loc (L' := [(0, .ref E.2.2), (1, .int p1), (2, .int (0 : Int32)), (3, .int (0 : Int32))]) [2, 3, 1, 0] rfl ?_
    exact lp_X10_saw_23 hE (by omega) (5) σ p1 (0 : Int32) (0 : Int32) (by exact h0) (by exact in_ct' (by decide) h0.ns (by with_reducible assumption)) (by exact Ct.zero _) (by decide) ⟨by rw [f_X10_saw, if_neg c1], rfl⟩
  · refine r_bipush (v := (-2 : Int32)) dX10_saw_16 (by decide) ?_
    refine r_iret dX10_saw_18 rfl rfl ?_
    exact ⟨_, rfl, by rw [f_X10_saw, if_pos c1], rfl⟩
