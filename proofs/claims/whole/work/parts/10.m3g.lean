def f_X10_worst_L4 : Nat → MSt → Int32 → Int32 → Int32
  | 0, _, _, _ => 0
  | n + 1, σ, l1, l2 => (if (10 : Int32) ≤ l2 then l1 else (if (f_X10_salesBy σ l2) = 0 then (f_X10_worst_L4 n σ l1 (l2 + (1 : Int32))) else (if l1 = (-1 : Int32) then (f_X10_worst_L4 n σ l2 (l2 + (1 : Int32))) else (if 0 < (((f_X10_barredBy σ l2) * (f_X10_salesBy σ l1)) - ((f_X10_barredBy σ l1) * (f_X10_salesBy σ l2))) then (f_X10_worst_L4 n σ l2 (l2 + (1 : Int32))) else (if (((f_X10_barredBy σ l2) * (f_X10_salesBy σ l1)) - ((f_X10_barredBy σ l1) * (f_X10_salesBy σ l2))) = 0 then (if (f_X10_salesBy σ l2) ≤ (f_X10_salesBy σ l1) then (f_X10_worst_L4 n σ l1 (l2 + (1 : Int32))) else (f_X10_worst_L4 n σ l2 (l2 + (1 : Int32)))) else (f_X10_worst_L4 n σ l1 (l2 + (1 : Int32))))))))
set_option maxRecDepth 100000 in
set_option maxHeartbeats 1000000 in
theorem lp_X10_worst_4 {g : GC} {E : ME} {d : Nat} {K : Option Value → MSt → Prop} (hE : MEok E) (hd : 6 ≤ d) : ∀ (fuel : Nat) (σ : MSt) (l1 : Int32) (l2 : Int32), MInv σ → Ct l2 10 → 11 - l2.toNatClampNeg < fuel → K (some (.int (f_X10_worst_L4 fuel σ l1 l2))) σ → MW g E cX10_worst 5 (some FieldType.int) "worst" d K 4 [(0, .ref E.2.2), (1, .int l1), (2, .int l2)] [] σ := by
  intro fuel
  induction fuel with
  | zero => intro σ l1 l2 i0 i1 hm hK; exact absurd hm (Nat.not_lt_zero _)
  | succ n ih =>
    intro σ l1 l2 i0 i1 hm hK
    refine r_iload_n dX10_worst_4 rfl ?_
    refine r_bipush (v := (10 : Int32)) dX10_worst_5 (by decide) ?_
    refine r_icmp_ge (tgt := 85) dX10_worst_7 (by decide) (fun c1 => ?_) (fun c1 => ?_)
    · refine r_iload_n dX10_worst_85 rfl ?_
      refine r_iret dX10_worst_86 rfl rfl ?_
      exact ⟨_, rfl, by rw [f_X10_worst_L4, if_pos c1] at hK; exact hK⟩
    · refine r_aload_n dX10_worst_10 rfl ?_
      refine r_iload_n dX10_worst_11 rfl ?_
      refine m_callW dX10_worst_12 mf_X10_salesBy ml_RX10_409 (ok_X10_salesBy (d := d - 1) hE (by omega) _ _ (by with_reducible first | assumption)) rfl rfl rfl (Nat.le_of_ble_eq_true rfl) (by omega) ?_
      refine r_istore_n dX10_worst_15 (by decide) ?_
      refine r_iload_n dX10_worst_16 rfl ?_
      refine r_if_ne (tgt := 23) dX10_worst_17 (by decide) (fun c2 => ?_) (fun c2 => ?_)
      · refine r_iload_n dX10_worst_23 rfl ?_
        refine r_iconst (v := (-1 : Int32)) dX10_worst_24 (by decide) ?_
        refine r_icmp_ne (tgt := 33) dX10_worst_25 (by decide) (fun c3 => ?_) (fun c3 => ?_)
        · refine r_aload_n dX10_worst_33 rfl ?_
          refine r_iload_n dX10_worst_34 rfl ?_
          refine m_callW dX10_worst_35 mf_X10_barredBy ml_RX10_412 (ok_X10_barredBy (d := d - 1) hE (by omega) _ _ (by with_reducible first | assumption)) rfl rfl rfl (Nat.le_of_ble_eq_true rfl) (by omega) ?_
          refine r_aload_n dX10_worst_38 rfl ?_
          refine r_iload_n dX10_worst_39 rfl ?_
          refine m_callW dX10_worst_40 mf_X10_salesBy ml_RX10_409 (ok_X10_salesBy (d := d - 1) hE (by omega) _ _ (by with_reducible first | assumption)) rfl rfl rfl (Nat.le_of_ble_eq_true rfl) (by omega) ?_
          refine r_imul dX10_worst_43 ?_
          refine r_aload_n dX10_worst_44 rfl ?_
          refine r_iload_n dX10_worst_45 rfl ?_
          refine m_callW dX10_worst_46 mf_X10_barredBy ml_RX10_412 (ok_X10_barredBy (d := d - 1) hE (by omega) _ _ (by with_reducible first | assumption)) rfl rfl rfl (Nat.le_of_ble_eq_true rfl) (by omega) ?_
          refine r_iload_n dX10_worst_49 rfl ?_
          refine r_imul dX10_worst_50 ?_
          refine r_isub dX10_worst_51 ?_
          refine r_istore dX10_worst_52 (by decide) ?_
          refine r_iload dX10_worst_54 rfl ?_
          refine r_if_gt (tgt := 73) dX10_worst_56 (by decide) (fun c4 => ?_) (fun c4 => ?_)
          · refine r_iload_n dX10_worst_73 rfl ?_
            refine r_goto (tgt := 78) dX10_worst_74 (by decide) ?_
            refine r_istore_n dX10_worst_78 (by decide) ?_
            refine r_iinc2 (w := (1 : Int32)) dX10_worst_79 rfl (by decide) (by decide) ?_
            refine r_goto (tgt := 4) dX10_worst_82 (by decide) ?_
            refine r_loc (L' := [(0, .ref E.2.2), (1, .int l2), (2, .int (l2 + (1 : Int32)))]) [4, 1, 0] rfl ?_
            exact ih σ  l2 (l2 + (1 : Int32)) (by exact i0) (by exact (Ct.up (by decide) ct10 i1 (by with_reducible assumption)).2.1) (by have u := (Ct.up (by decide) ct10 i1 (by with_reducible assumption)).2.2; omega) (by rw [f_X10_worst_L4, if_neg c1, if_neg c2, if_neg c3, if_pos c4] at hK; exact hK)
          · refine r_iload dX10_worst_59 rfl ?_
            refine r_if_ne (tgt := 77) dX10_worst_61 (by decide) (fun c5 => ?_) (fun c5 => ?_)
            · refine r_iload_n dX10_worst_77 rfl ?_
              refine r_istore_n dX10_worst_78 (by decide) ?_
              refine r_iinc2 (w := (1 : Int32)) dX10_worst_79 rfl (by decide) (by decide) ?_
              refine r_goto (tgt := 4) dX10_worst_82 (by decide) ?_
              refine r_loc (L' := [(0, .ref E.2.2), (1, .int l1), (2, .int (l2 + (1 : Int32)))]) [4, 1, 0] rfl ?_
              exact ih σ  l1 (l2 + (1 : Int32)) (by exact i0) (by exact (Ct.up (by decide) ct10 i1 (by with_reducible assumption)).2.1) (by have u := (Ct.up (by decide) ct10 i1 (by with_reducible assumption)).2.2; omega) (by rw [f_X10_worst_L4, if_neg c1, if_neg c2, if_neg c3, if_neg c4, if_neg c5] at hK; exact hK)
            · refine r_iload_n dX10_worst_64 rfl ?_
              refine r_aload_n dX10_worst_65 rfl ?_
              refine r_iload_n dX10_worst_66 rfl ?_
              refine m_callW dX10_worst_67 mf_X10_salesBy ml_RX10_409 (ok_X10_salesBy (d := d - 1) hE (by omega) _ _ (by with_reducible first | assumption)) rfl rfl rfl (Nat.le_of_ble_eq_true rfl) (by omega) ?_
              refine r_icmp_le (tgt := 77) dX10_worst_70 (by decide) (fun c6 => ?_) (fun c6 => ?_)
              · refine r_iload_n dX10_worst_77 rfl ?_
                refine r_istore_n dX10_worst_78 (by decide) ?_
                refine r_iinc2 (w := (1 : Int32)) dX10_worst_79 rfl (by decide) (by decide) ?_
                refine r_goto (tgt := 4) dX10_worst_82 (by decide) ?_
                refine r_loc (L' := [(0, .ref E.2.2), (1, .int l1), (2, .int (l2 + (1 : Int32)))]) [4, 1, 0] rfl ?_
                exact ih σ  l1 (l2 + (1 : Int32)) (by exact i0) (by exact (Ct.up (by decide) ct10 i1 (by with_reducible assumption)).2.1) (by have u := (Ct.up (by decide) ct10 i1 (by with_reducible assumption)).2.2; omega) (by rw [f_X10_worst_L4, if_neg c1, if_neg c2, if_neg c3, if_neg c4, if_pos c5, if_pos c6] at hK; exact hK)
              · refine r_iload_n dX10_worst_73 rfl ?_
                refine r_goto (tgt := 78) dX10_worst_74 (by decide) ?_
                refine r_istore_n dX10_worst_78 (by decide) ?_
                refine r_iinc2 (w := (1 : Int32)) dX10_worst_79 rfl (by decide) (by decide) ?_
                refine r_goto (tgt := 4) dX10_worst_82 (by decide) ?_
                refine r_loc (L' := [(0, .ref E.2.2), (1, .int l2), (2, .int (l2 + (1 : Int32)))]) [4, 1, 0] rfl ?_
                exact ih σ  l2 (l2 + (1 : Int32)) (by exact i0) (by exact (Ct.up (by decide) ct10 i1 (by with_reducible assumption)).2.1) (by have u := (Ct.up (by decide) ct10 i1 (by with_reducible assumption)).2.2; omega) (by rw [f_X10_worst_L4, if_neg c1, if_neg c2, if_neg c3, if_neg c4, if_pos c5, if_neg c6] at hK; exact hK)
        · refine r_iload_n dX10_worst_28 rfl ?_
          refine r_istore_n dX10_worst_29 (by decide) ?_
          refine r_goto (tgt := 79) dX10_worst_30 (by decide) ?_
          refine r_iinc2 (w := (1 : Int32)) dX10_worst_79 rfl (by decide) (by decide) ?_
          refine r_goto (tgt := 4) dX10_worst_82 (by decide) ?_
          refine r_loc (L' := [(0, .ref E.2.2), (1, .int l2), (2, .int (l2 + (1 : Int32)))]) [3, 1, 0] rfl ?_
          exact ih σ  l2 (l2 + (1 : Int32)) (by exact i0) (by exact (Ct.up (by decide) ct10 i1 (by with_reducible assumption)).2.1) (by have u := (Ct.up (by decide) ct10 i1 (by with_reducible assumption)).2.2; omega) (by rw [f_X10_worst_L4, if_neg c1, if_neg c2, if_pos c3] at hK; exact hK)
      · refine r_goto (tgt := 79) dX10_worst_20 (by decide) ?_
        refine r_iinc2 (w := (1 : Int32)) dX10_worst_79 rfl (by decide) (by decide) ?_
        refine r_goto (tgt := 4) dX10_worst_82 (by decide) ?_
        refine r_loc (L' := [(0, .ref E.2.2), (1, .int l1), (2, .int (l2 + (1 : Int32)))]) [2, 3, 0] rfl ?_
        exact ih σ  l1 (l2 + (1 : Int32)) (by exact i0) (by exact (Ct.up (by decide) ct10 i1 (by with_reducible assumption)).2.1) (by have u := (Ct.up (by decide) ct10 i1 (by with_reducible assumption)).2.2; omega) (by rw [f_X10_worst_L4, if_neg c1, if_pos c2] at hK; exact hK)
def f_X10_worst (σ : MSt)  : Int32 := (f_X10_worst_L4 (12) σ (-1 : Int32) (0 : Int32))
set_option maxRecDepth 100000 in
set_option maxHeartbeats 1000000 in
theorem ok_X10_worst {g : GC} {E : ME} {d : Nat} (hE : MEok E) (hd : 6 ≤ d) (σ : MSt)  (h0 : MInv σ) : MC g E d yX10_worst cX10_worst 5 (some FieldType.int) [] (fun v σ' => v = some (.int (f_X10_worst σ )) ∧ σ' = σ) σ := by
  refine AM.of2 (own := RX10) (nm := "worst") (L0 := [(0, .ref E.2.2)]) (by decide) rfl rfl (Nat.le_of_ble_eq_true rfl) rfl ?_
  refine r_iconst (v := (-1 : Int32)) dX10_worst_0 (by decide) ?_
  refine r_istore_n dX10_worst_1 (by decide) ?_
  refine r_iconst (v := (0 : Int32)) dX10_worst_2 (by decide) ?_
  refine r_istore_n dX10_worst_3 (by decide) ?_
  refine r_loc (L' := [(0, .ref E.2.2), (1, .int (-1 : Int32)), (2, .int (0 : Int32))]) [2, 1, 0] rfl ?_
  exact lp_X10_worst_4 hE (by omega) (12) σ (-1 : Int32) (0 : Int32) (by exact h0) (by exact Ct.zero _) (by decide) ⟨by rw [f_X10_worst], rfl⟩
