def f_X10_bars (σ : MSt) (p1 : Int32) (p2 : Int32) : Int32 := (if (f_X10_in (Int32.toInt64 (σ.2.2 7 (Int32.toNatClampNeg (σ.2.2 17 (Int32.toNatClampNeg p1))))) (Int32.toInt64 (σ.2.2 13 (Int32.toNatClampNeg (((4 : Int32) * p2) + (f_X10_showsOf σ p1 p2))))) (Int32.toInt64 (σ.2.2 14 (Int32.toNatClampNeg (((4 : Int32) * p2) + (f_X10_showsOf σ p1 p2)))))) = 0 then (1 : Int32) else (0 : Int32))
set_option maxRecDepth 100000 in
set_option maxHeartbeats 1000000 in
theorem ok_X10_bars {g : GC} {E : ME} {d : Nat} (hE : MEok E) (hd : 2 ≤ d) (σ : MSt) (p1 : Int32) (p2 : Int32) (h0 : MInv σ) (h1 : vp_in p1 24) (h2 : P3 p2) : MC g E d yX10_bars cX10_bars 4 (some FieldType.boolean) [.int p1, .int p2] (fun v σ' => v = some (.int (f_X10_bars σ p1 p2)) ∧ σ' = σ) σ := by
  refine AM.of2 (own := RX10) (nm := "bars") (L0 := [(0, .ref E.2.2), (1, .int p1), (2, .int p2)]) (by decide) rfl rfl (Nat.le_of_ble_eq_true rfl) rfl ?_
  refine r_iconst (v := (4 : Int32)) dX10_bars_0 (by decide) ?_
  refine r_iload_n dX10_bars_1 rfl ?_
  refine r_imul dX10_bars_2 ?_
  refine r_aload_n dX10_bars_3 rfl ?_
  refine r_iload_n dX10_bars_4 rfl ?_
  refine r_iload_n dX10_bars_5 rfl ?_
  refine m_callW dX10_bars_6 mf_X10_showsOf ml_RX10_189 (ok_X10_showsOf (d := d - 1) hE (by omega) _ _ _ (by with_reducible first | assumption | exact h0.at _ h2 | exact h0.says _ | exact h0.holds _ | exact P3.a | exact P3.b | exact P3.c) (by with_reducible first | assumption | exact h0.at _ h2 | exact h0.says _ | exact h0.holds _ | exact P3.a | exact P3.b | exact P3.c)) rfl rfl rfl (Nat.le_of_ble_eq_true rfl) (by omega) ?_
  refine r_iadd dX10_bars_9 ?_
  refine r_istore_n dX10_bars_10 (by decide) ?_
  refine r_aload_n dX10_bars_11 rfl ?_
  refine m_get dX10_bars_12 fl_RX10_23 rfl ?_
  refine r_aload_n dX10_bars_15 rfl ?_
  refine m_get dX10_bars_16 fl_RX10_50 rfl ?_
  refine r_iload_n dX10_bars_19 rfl ?_
  refine m_iald (k := 17) (N := 24) hE (by decide) rfl rfl dX10_bars_20 (by with_reducible first | assumption | exact h0.at _ h2 | exact h0.says _ | exact h0.holds _ | exact P3.a | exact P3.b | exact P3.c) ?_
  refine m_iald (k := 7) (N := 8) hE (by decide) rfl rfl dX10_bars_21 (by with_reducible first | assumption | exact h0.at _ h2 | exact h0.says _ | exact h0.holds _ | exact P3.a | exact P3.b | exact P3.c) ?_
  refine r_i2l dX10_bars_22 ?_
  refine r_aload_n dX10_bars_23 rfl ?_
  refine m_get dX10_bars_24 fl_RX10_38 rfl ?_
  refine r_iload_n dX10_bars_27 rfl ?_
  refine m_iald (k := 13) (N := 12) hE (by decide) rfl rfl dX10_bars_28 (by with_reducible first | assumption | exact h0.at _ h2 | exact h0.says _ | exact h0.holds _ | exact P3.a | exact P3.b | exact P3.c) ?_
  refine r_i2l dX10_bars_29 ?_
  refine r_aload_n dX10_bars_30 rfl ?_
  refine m_get dX10_bars_31 fl_RX10_41 rfl ?_
  refine r_iload_n dX10_bars_34 rfl ?_
  refine m_iald (k := 14) (N := 12) hE (by decide) rfl rfl dX10_bars_35 (by with_reducible first | assumption | exact h0.at _ h2 | exact h0.says _ | exact h0.holds _ | exact P3.a | exact P3.b | exact P3.c) ?_
  refine r_i2l dX10_bars_36 ?_
  refine m_callS dX10_bars_37 mf_X10_in ml_RX10_149 (ok_X10_in (d := d - 1) (by omega) _ _ _) rfl rfl (Nat.le_of_ble_eq_true rfl) (by omega) ?_
  refine r_if_ne (tgt := 47) dX10_bars_40 (by decide) (fun c1 => ?_) (fun c1 => ?_)
  · refine r_iconst (v := (0 : Int32)) dX10_bars_47 (by decide) ?_
    refine r_iret dX10_bars_48 rfl (by decide) ?_
    exact ⟨_, rfl, by rw [f_X10_bars, if_neg c1], rfl⟩
  · refine r_iconst (v := (1 : Int32)) dX10_bars_43 (by decide) ?_
    refine r_goto (tgt := 48) dX10_bars_44 (by decide) ?_
    refine r_iret dX10_bars_48 rfl (by decide) ?_
    exact ⟨_, rfl, by rw [f_X10_bars, if_pos c1], rfl⟩
theorem bz_X10_bars (σ : MSt) (p1 : Int32) (p2 : Int32) : narrow .boolean (.int (f_X10_bars σ p1 p2)) = .int (f_X10_bars σ p1 p2) := by
  unfold f_X10_bars
  (repeat' split) <;> first | rfl | decide | apply bz_X10_in

def f_X10_isOdd (σ : MSt) (p1 : Int32) (p2 : Int32) : Int32 := (if (f_X10_bars σ p1 p2) = 0 then (if (f_X10_showsOf σ p1 p2) = (f_X10_partOf (σ.2.2 10 (Int32.toNatClampNeg (σ.2.2 17 (Int32.toNatClampNeg p1)))) p2) then (0 : Int32) else (1 : Int32)) else (0 : Int32))
set_option maxRecDepth 100000 in
set_option maxHeartbeats 1000000 in
theorem ok_X10_isOdd {g : GC} {E : ME} {d : Nat} (hE : MEok E) (hd : 3 ≤ d) (σ : MSt) (p1 : Int32) (p2 : Int32) (h0 : MInv σ) (h1 : vp_in p1 24) (h2 : P3 p2) : MC g E d yX10_isOdd cX10_isOdd 3 (some FieldType.boolean) [.int p1, .int p2] (fun v σ' => v = some (.int (f_X10_isOdd σ p1 p2)) ∧ σ' = σ) σ := by
  refine AM.of2 (own := RX10) (nm := "isOdd") (L0 := [(0, .ref E.2.2), (1, .int p1), (2, .int p2)]) (by decide) rfl rfl (Nat.le_of_ble_eq_true rfl) rfl ?_
  refine r_aload_n dX10_isOdd_0 rfl ?_
  refine r_iload_n dX10_isOdd_1 rfl ?_
  refine r_iload_n dX10_isOdd_2 rfl ?_
  refine m_callW dX10_isOdd_3 mf_X10_bars ml_RX10_195 (ok_X10_bars (d := d - 1) hE (by omega) _ _ _ (by with_reducible first | assumption | exact h0.at _ h2 | exact h0.says _ | exact h0.holds _ | exact P3.a | exact P3.b | exact P3.c) (by with_reducible first | assumption | exact h0.at _ h2 | exact h0.says _ | exact h0.holds _ | exact P3.a | exact P3.b | exact P3.c) (by with_reducible first | assumption | exact h0.at _ h2 | exact h0.says _ | exact h0.holds _ | exact P3.a | exact P3.b | exact P3.c)) rfl rfl rfl (Nat.le_of_ble_eq_true rfl) (by omega) ?_
  refine r_if_ne (tgt := 37) dX10_isOdd_6 (by decide) (fun c1 => ?_) (fun c1 => ?_)
  · refine r_iconst (v := (0 : Int32)) dX10_isOdd_37 (by decide) ?_
    refine r_iret dX10_isOdd_38 rfl (by decide) ?_
    exact ⟨_, rfl, by rw [f_X10_isOdd, if_neg c1], rfl⟩
  · refine r_aload_n dX10_isOdd_9 rfl ?_
    refine r_iload_n dX10_isOdd_10 rfl ?_
    refine r_iload_n dX10_isOdd_11 rfl ?_
    refine m_callW dX10_isOdd_12 mf_X10_showsOf ml_RX10_189 (ok_X10_showsOf (d := d - 1) hE (by omega) _ _ _ (by with_reducible first | assumption | exact h0.at _ h2 | exact h0.says _ | exact h0.holds _ | exact P3.a | exact P3.b | exact P3.c) (by with_reducible first | assumption | exact h0.at _ h2 | exact h0.says _ | exact h0.holds _ | exact P3.a | exact P3.b | exact P3.c)) rfl rfl rfl (Nat.le_of_ble_eq_true rfl) (by omega) ?_
    refine r_aload_n dX10_isOdd_15 rfl ?_
    refine m_get dX10_isOdd_16 fl_RX10_32 rfl ?_
    refine r_aload_n dX10_isOdd_19 rfl ?_
    refine m_get dX10_isOdd_20 fl_RX10_50 rfl ?_
    refine r_iload_n dX10_isOdd_23 rfl ?_
    refine m_iald (k := 17) (N := 24) hE (by decide) rfl rfl dX10_isOdd_24 (by with_reducible first | assumption | exact h0.at _ h2 | exact h0.says _ | exact h0.holds _ | exact P3.a | exact P3.b | exact P3.c) ?_
    refine m_iald (k := 10) (N := 8) hE (by decide) rfl rfl dX10_isOdd_25 (by with_reducible first | assumption | exact h0.at _ h2 | exact h0.says _ | exact h0.holds _ | exact P3.a | exact P3.b | exact P3.c) ?_
    refine r_iload_n dX10_isOdd_26 rfl ?_
    refine m_callS dX10_isOdd_27 mf_X10_partOf ml_RX10_179 (ok_X10_partOf (d := d - 1) (by omega) _ _) rfl rfl (Nat.le_of_ble_eq_true rfl) (by omega) ?_
    refine r_icmp_eq (tgt := 37) dX10_isOdd_30 (by decide) (fun c2 => ?_) (fun c2 => ?_)
    · refine r_iconst (v := (0 : Int32)) dX10_isOdd_37 (by decide) ?_
      refine r_iret dX10_isOdd_38 rfl (by decide) ?_
      exact ⟨_, rfl, by rw [f_X10_isOdd, if_pos c1, if_pos c2], rfl⟩
    · refine r_iconst (v := (1 : Int32)) dX10_isOdd_33 (by decide) ?_
      refine r_goto (tgt := 38) dX10_isOdd_34 (by decide) ?_
      refine r_iret dX10_isOdd_38 rfl (by decide) ?_
      exact ⟨_, rfl, by rw [f_X10_isOdd, if_pos c1, if_neg c2], rfl⟩
theorem bz_X10_isOdd (σ : MSt) (p1 : Int32) (p2 : Int32) : narrow .boolean (.int (f_X10_isOdd σ p1 p2)) = .int (f_X10_isOdd σ p1 p2) := by
  unfold f_X10_isOdd
  (repeat' split) <;> first | rfl | decide | apply bz_X10_in

def f_X10_barsOf (σ : MSt) (p1 : Int32) : Int32 := (if (f_X10_bars σ p1 (0 : Int32)) = 0 then (if (f_X10_bars σ p1 (1 : Int32)) = 0 then (if (f_X10_bars σ p1 (2 : Int32)) = 0 then (((0 : Int32) + (0 : Int32)) + (0 : Int32)) else (((0 : Int32) + (0 : Int32)) + (4 : Int32))) else (if (f_X10_bars σ p1 (2 : Int32)) = 0 then (((0 : Int32) + (2 : Int32)) + (0 : Int32)) else (((0 : Int32) + (2 : Int32)) + (4 : Int32)))) else (if (f_X10_bars σ p1 (1 : Int32)) = 0 then (if (f_X10_bars σ p1 (2 : Int32)) = 0 then (((1 : Int32) + (0 : Int32)) + (0 : Int32)) else (((1 : Int32) + (0 : Int32)) + (4 : Int32))) else (if (f_X10_bars σ p1 (2 : Int32)) = 0 then (((1 : Int32) + (2 : Int32)) + (0 : Int32)) else (((1 : Int32) + (2 : Int32)) + (4 : Int32)))))
set_option maxRecDepth 100000 in
set_option maxHeartbeats 1000000 in
theorem ok_X10_barsOf {g : GC} {E : ME} {d : Nat} (hE : MEok E) (hd : 3 ≤ d) (σ : MSt) (p1 : Int32) (h0 : MInv σ) (h1 : vp_in p1 24) : MC g E d yX10_barsOf cX10_barsOf 2 (some FieldType.int) [.int p1] (fun v σ' => v = some (.int (f_X10_barsOf σ p1)) ∧ σ' = σ) σ := by
  refine AM.of2 (own := RX10) (nm := "barsOf") (L0 := [(0, .ref E.2.2), (1, .int p1)]) (by decide) rfl rfl (Nat.le_of_ble_eq_true rfl) rfl ?_
  refine r_aload_n dX10_barsOf_0 rfl ?_
  refine r_iload_n dX10_barsOf_1 rfl ?_
  refine r_iconst (v := (0 : Int32)) dX10_barsOf_2 (by decide) ?_
  refine m_callW dX10_barsOf_3 mf_X10_bars ml_RX10_195 (ok_X10_bars (d := d - 1) hE (by omega) _ _ _ (by with_reducible first | assumption | exact h0.at _ h2 | exact h0.says _ | exact h0.holds _ | exact P3.a | exact P3.b | exact P3.c) (by with_reducible first | assumption | exact h0.at _ h2 | exact h0.says _ | exact h0.holds _ | exact P3.a | exact P3.b | exact P3.c) (by with_reducible first | assumption | exact h0.at _ h2 | exact h0.says _ | exact h0.holds _ | exact P3.a | exact P3.b | exact P3.c)) rfl rfl rfl (Nat.le_of_ble_eq_true rfl) (by omega) ?_
  refine r_if_eq (tgt := 13) dX10_barsOf_6 (by decide) (fun c1 => ?_) (fun c1 => ?_)
  · refine r_iconst (v := (0 : Int32)) dX10_barsOf_13 (by decide) ?_
    refine r_aload_n dX10_barsOf_14 rfl ?_
    refine r_iload_n dX10_barsOf_15 rfl ?_
    refine r_iconst (v := (1 : Int32)) dX10_barsOf_16 (by decide) ?_
    refine m_callW dX10_barsOf_17 mf_X10_bars ml_RX10_195 (ok_X10_bars (d := d - 1) hE (by omega) _ _ _ (by with_reducible first | assumption | exact h0.at _ h2 | exact h0.says _ | exact h0.holds _ | exact P3.a | exact P3.b | exact P3.c) (by with_reducible first | assumption | exact h0.at _ h2 | exact h0.says _ | exact h0.holds _ | exact P3.a | exact P3.b | exact P3.c) (by with_reducible first | assumption | exact h0.at _ h2 | exact h0.says _ | exact h0.holds _ | exact P3.a | exact P3.b | exact P3.c)) rfl rfl rfl (Nat.le_of_ble_eq_true rfl) (by omega) ?_
    refine r_if_eq (tgt := 27) dX10_barsOf_20 (by decide) (fun c2 => ?_) (fun c2 => ?_)
    · refine r_iconst (v := (0 : Int32)) dX10_barsOf_27 (by decide) ?_
      refine r_iadd dX10_barsOf_28 ?_
      refine r_aload_n dX10_barsOf_29 rfl ?_
      refine r_iload_n dX10_barsOf_30 rfl ?_
      refine r_iconst (v := (2 : Int32)) dX10_barsOf_31 (by decide) ?_
      refine m_callW dX10_barsOf_32 mf_X10_bars ml_RX10_195 (ok_X10_bars (d := d - 1) hE (by omega) _ _ _ (by with_reducible first | assumption | exact h0.at _ h2 | exact h0.says _ | exact h0.holds _ | exact P3.a | exact P3.b | exact P3.c) (by with_reducible first | assumption | exact h0.at _ h2 | exact h0.says _ | exact h0.holds _ | exact P3.a | exact P3.b | exact P3.c) (by with_reducible first | assumption | exact h0.at _ h2 | exact h0.says _ | exact h0.holds _ | exact P3.a | exact P3.b | exact P3.c)) rfl rfl rfl (Nat.le_of_ble_eq_true rfl) (by omega) ?_
      refine r_if_eq (tgt := 42) dX10_barsOf_35 (by decide) (fun c3 => ?_) (fun c3 => ?_)
      · refine r_iconst (v := (0 : Int32)) dX10_barsOf_42 (by decide) ?_
        refine r_iadd dX10_barsOf_43 ?_
        refine r_iret dX10_barsOf_44 rfl rfl ?_
        exact ⟨_, rfl, by rw [f_X10_barsOf, if_pos c1, if_pos c2, if_pos c3], rfl⟩
      · refine r_iconst (v := (4 : Int32)) dX10_barsOf_38 (by decide) ?_
        refine r_goto (tgt := 43) dX10_barsOf_39 (by decide) ?_
        refine r_iadd dX10_barsOf_43 ?_
        refine r_iret dX10_barsOf_44 rfl rfl ?_
        exact ⟨_, rfl, by rw [f_X10_barsOf, if_pos c1, if_pos c2, if_neg c3], rfl⟩
    · refine r_iconst (v := (2 : Int32)) dX10_barsOf_23 (by decide) ?_
      refine r_goto (tgt := 28) dX10_barsOf_24 (by decide) ?_
      refine r_iadd dX10_barsOf_28 ?_
      refine r_aload_n dX10_barsOf_29 rfl ?_
      refine r_iload_n dX10_barsOf_30 rfl ?_
      refine r_iconst (v := (2 : Int32)) dX10_barsOf_31 (by decide) ?_
      refine m_callW dX10_barsOf_32 mf_X10_bars ml_RX10_195 (ok_X10_bars (d := d - 1) hE (by omega) _ _ _ (by with_reducible first | assumption | exact h0.at _ h2 | exact h0.says _ | exact h0.holds _ | exact P3.a | exact P3.b | exact P3.c) (by with_reducible first | assumption | exact h0.at _ h2 | exact h0.says _ | exact h0.holds _ | exact P3.a | exact P3.b | exact P3.c) (by with_reducible first | assumption | exact h0.at _ h2 | exact h0.says _ | exact h0.holds _ | exact P3.a | exact P3.b | exact P3.c)) rfl rfl rfl (Nat.le_of_ble_eq_true rfl) (by omega) ?_
      refine r_if_eq (tgt := 42) dX10_barsOf_35 (by decide) (fun c4 => ?_) (fun c4 => ?_)
      · refine r_iconst (v := (0 : Int32)) dX10_barsOf_42 (by decide) ?_
        refine r_iadd dX10_barsOf_43 ?_
        refine r_iret dX10_barsOf_44 rfl rfl ?_
        exact ⟨_, rfl, by rw [f_X10_barsOf, if_pos c1, if_neg c2, if_pos c4], rfl⟩
      · refine r_iconst (v := (4 : Int32)) dX10_barsOf_38 (by decide) ?_
        refine r_goto (tgt := 43) dX10_barsOf_39 (by decide) ?_
        refine r_iadd dX10_barsOf_43 ?_
        refine r_iret dX10_barsOf_44 rfl rfl ?_
        exact ⟨_, rfl, by rw [f_X10_barsOf, if_pos c1, if_neg c2, if_neg c4], rfl⟩
  · refine r_iconst (v := (1 : Int32)) dX10_barsOf_9 (by decide) ?_
    refine r_goto (tgt := 14) dX10_barsOf_10 (by decide) ?_
    refine r_aload_n dX10_barsOf_14 rfl ?_
    refine r_iload_n dX10_barsOf_15 rfl ?_
    refine r_iconst (v := (1 : Int32)) dX10_barsOf_16 (by decide) ?_
    refine m_callW dX10_barsOf_17 mf_X10_bars ml_RX10_195 (ok_X10_bars (d := d - 1) hE (by omega) _ _ _ (by with_reducible first | assumption | exact h0.at _ h2 | exact h0.says _ | exact h0.holds _ | exact P3.a | exact P3.b | exact P3.c) (by with_reducible first | assumption | exact h0.at _ h2 | exact h0.says _ | exact h0.holds _ | exact P3.a | exact P3.b | exact P3.c) (by with_reducible first | assumption | exact h0.at _ h2 | exact h0.says _ | exact h0.holds _ | exact P3.a | exact P3.b | exact P3.c)) rfl rfl rfl (Nat.le_of_ble_eq_true rfl) (by omega) ?_
    refine r_if_eq (tgt := 27) dX10_barsOf_20 (by decide) (fun c5 => ?_) (fun c5 => ?_)
    · refine r_iconst (v := (0 : Int32)) dX10_barsOf_27 (by decide) ?_
      refine r_iadd dX10_barsOf_28 ?_
      refine r_aload_n dX10_barsOf_29 rfl ?_
      refine r_iload_n dX10_barsOf_30 rfl ?_
      refine r_iconst (v := (2 : Int32)) dX10_barsOf_31 (by decide) ?_
      refine m_callW dX10_barsOf_32 mf_X10_bars ml_RX10_195 (ok_X10_bars (d := d - 1) hE (by omega) _ _ _ (by with_reducible first | assumption | exact h0.at _ h2 | exact h0.says _ | exact h0.holds _ | exact P3.a | exact P3.b | exact P3.c) (by with_reducible first | assumption | exact h0.at _ h2 | exact h0.says _ | exact h0.holds _ | exact P3.a | exact P3.b | exact P3.c) (by with_reducible first | assumption | exact h0.at _ h2 | exact h0.says _ | exact h0.holds _ | exact P3.a | exact P3.b | exact P3.c)) rfl rfl rfl (Nat.le_of_ble_eq_true rfl) (by omega) ?_
      refine r_if_eq (tgt := 42) dX10_barsOf_35 (by decide) (fun c6 => ?_) (fun c6 => ?_)
      · refine r_iconst (v := (0 : Int32)) dX10_barsOf_42 (by decide) ?_
        refine r_iadd dX10_barsOf_43 ?_
        refine r_iret dX10_barsOf_44 rfl rfl ?_
        exact ⟨_, rfl, by rw [f_X10_barsOf, if_neg c1, if_pos c5, if_pos c6], rfl⟩
      · refine r_iconst (v := (4 : Int32)) dX10_barsOf_38 (by decide) ?_
        refine r_goto (tgt := 43) dX10_barsOf_39 (by decide) ?_
        refine r_iadd dX10_barsOf_43 ?_
        refine r_iret dX10_barsOf_44 rfl rfl ?_
        exact ⟨_, rfl, by rw [f_X10_barsOf, if_neg c1, if_pos c5, if_neg c6], rfl⟩
    · refine r_iconst (v := (2 : Int32)) dX10_barsOf_23 (by decide) ?_
      refine r_goto (tgt := 28) dX10_barsOf_24 (by decide) ?_
      refine r_iadd dX10_barsOf_28 ?_
      refine r_aload_n dX10_barsOf_29 rfl ?_
      refine r_iload_n dX10_barsOf_30 rfl ?_
      refine r_iconst (v := (2 : Int32)) dX10_barsOf_31 (by decide) ?_
      refine m_callW dX10_barsOf_32 mf_X10_bars ml_RX10_195 (ok_X10_bars (d := d - 1) hE (by omega) _ _ _ (by with_reducible first | assumption | exact h0.at _ h2 | exact h0.says _ | exact h0.holds _ | exact P3.a | exact P3.b | exact P3.c) (by with_reducible first | assumption | exact h0.at _ h2 | exact h0.says _ | exact h0.holds _ | exact P3.a | exact P3.b | exact P3.c) (by with_reducible first | assumption | exact h0.at _ h2 | exact h0.says _ | exact h0.holds _ | exact P3.a | exact P3.b | exact P3.c)) rfl rfl rfl (Nat.le_of_ble_eq_true rfl) (by omega) ?_
      refine r_if_eq (tgt := 42) dX10_barsOf_35 (by decide) (fun c7 => ?_) (fun c7 => ?_)
      · refine r_iconst (v := (0 : Int32)) dX10_barsOf_42 (by decide) ?_
        refine r_iadd dX10_barsOf_43 ?_
        refine r_iret dX10_barsOf_44 rfl rfl ?_
        exact ⟨_, rfl, by rw [f_X10_barsOf, if_neg c1, if_neg c5, if_pos c7], rfl⟩
      · refine r_iconst (v := (4 : Int32)) dX10_barsOf_38 (by decide) ?_
        refine r_goto (tgt := 43) dX10_barsOf_39 (by decide) ?_
        refine r_iadd dX10_barsOf_43 ?_
        refine r_iret dX10_barsOf_44 rfl rfl ?_
        exact ⟨_, rfl, by rw [f_X10_barsOf, if_neg c1, if_neg c5, if_neg c7], rfl⟩

def f_X10_oddsOf (σ : MSt) (p1 : Int32) : Int32 := (if (f_X10_isOdd σ p1 (0 : Int32)) = 0 then (if (f_X10_isOdd σ p1 (1 : Int32)) = 0 then (if (f_X10_isOdd σ p1 (2 : Int32)) = 0 then (((0 : Int32) + (0 : Int32)) + (0 : Int32)) else (((0 : Int32) + (0 : Int32)) + (4 : Int32))) else (if (f_X10_isOdd σ p1 (2 : Int32)) = 0 then (((0 : Int32) + (2 : Int32)) + (0 : Int32)) else (((0 : Int32) + (2 : Int32)) + (4 : Int32)))) else (if (f_X10_isOdd σ p1 (1 : Int32)) = 0 then (if (f_X10_isOdd σ p1 (2 : Int32)) = 0 then (((1 : Int32) + (0 : Int32)) + (0 : Int32)) else (((1 : Int32) + (0 : Int32)) + (4 : Int32))) else (if (f_X10_isOdd σ p1 (2 : Int32)) = 0 then (((1 : Int32) + (2 : Int32)) + (0 : Int32)) else (((1 : Int32) + (2 : Int32)) + (4 : Int32)))))
set_option maxRecDepth 100000 in
set_option maxHeartbeats 1000000 in
theorem ok_X10_oddsOf {g : GC} {E : ME} {d : Nat} (hE : MEok E) (hd : 4 ≤ d) (σ : MSt) (p1 : Int32) (h0 : MInv σ) (h1 : vp_in p1 24) : MC g E d yX10_oddsOf cX10_oddsOf 2 (some FieldType.int) [.int p1] (fun v σ' => v = some (.int (f_X10_oddsOf σ p1)) ∧ σ' = σ) σ := by
  refine AM.of2 (own := RX10) (nm := "oddsOf") (L0 := [(0, .ref E.2.2), (1, .int p1)]) (by decide) rfl rfl (Nat.le_of_ble_eq_true rfl) rfl ?_
  refine r_aload_n dX10_oddsOf_0 rfl ?_
  refine r_iload_n dX10_oddsOf_1 rfl ?_
  refine r_iconst (v := (0 : Int32)) dX10_oddsOf_2 (by decide) ?_
  refine m_callW dX10_oddsOf_3 mf_X10_isOdd ml_RX10_199 (ok_X10_isOdd (d := d - 1) hE (by omega) _ _ _ (by with_reducible first | assumption | exact h0.at _ h2 | exact h0.says _ | exact h0.holds _ | exact P3.a | exact P3.b | exact P3.c) (by with_reducible first | assumption | exact h0.at _ h2 | exact h0.says _ | exact h0.holds _ | exact P3.a | exact P3.b | exact P3.c) (by with_reducible first | assumption | exact h0.at _ h2 | exact h0.says _ | exact h0.holds _ | exact P3.a | exact P3.b | exact P3.c)) rfl rfl rfl (Nat.le_of_ble_eq_true rfl) (by omega) ?_
  refine r_if_eq (tgt := 13) dX10_oddsOf_6 (by decide) (fun c1 => ?_) (fun c1 => ?_)
  · refine r_iconst (v := (0 : Int32)) dX10_oddsOf_13 (by decide) ?_
    refine r_aload_n dX10_oddsOf_14 rfl ?_
    refine r_iload_n dX10_oddsOf_15 rfl ?_
    refine r_iconst (v := (1 : Int32)) dX10_oddsOf_16 (by decide) ?_
    refine m_callW dX10_oddsOf_17 mf_X10_isOdd ml_RX10_199 (ok_X10_isOdd (d := d - 1) hE (by omega) _ _ _ (by with_reducible first | assumption | exact h0.at _ h2 | exact h0.says _ | exact h0.holds _ | exact P3.a | exact P3.b | exact P3.c) (by with_reducible first | assumption | exact h0.at _ h2 | exact h0.says _ | exact h0.holds _ | exact P3.a | exact P3.b | exact P3.c) (by with_reducible first | assumption | exact h0.at _ h2 | exact h0.says _ | exact h0.holds _ | exact P3.a | exact P3.b | exact P3.c)) rfl rfl rfl (Nat.le_of_ble_eq_true rfl) (by omega) ?_
    refine r_if_eq (tgt := 27) dX10_oddsOf_20 (by decide) (fun c2 => ?_) (fun c2 => ?_)
    · refine r_iconst (v := (0 : Int32)) dX10_oddsOf_27 (by decide) ?_
      refine r_iadd dX10_oddsOf_28 ?_
      refine r_aload_n dX10_oddsOf_29 rfl ?_
      refine r_iload_n dX10_oddsOf_30 rfl ?_
      refine r_iconst (v := (2 : Int32)) dX10_oddsOf_31 (by decide) ?_
      refine m_callW dX10_oddsOf_32 mf_X10_isOdd ml_RX10_199 (ok_X10_isOdd (d := d - 1) hE (by omega) _ _ _ (by with_reducible first | assumption | exact h0.at _ h2 | exact h0.says _ | exact h0.holds _ | exact P3.a | exact P3.b | exact P3.c) (by with_reducible first | assumption | exact h0.at _ h2 | exact h0.says _ | exact h0.holds _ | exact P3.a | exact P3.b | exact P3.c) (by with_reducible first | assumption | exact h0.at _ h2 | exact h0.says _ | exact h0.holds _ | exact P3.a | exact P3.b | exact P3.c)) rfl rfl rfl (Nat.le_of_ble_eq_true rfl) (by omega) ?_
      refine r_if_eq (tgt := 42) dX10_oddsOf_35 (by decide) (fun c3 => ?_) (fun c3 => ?_)
      · refine r_iconst (v := (0 : Int32)) dX10_oddsOf_42 (by decide) ?_
        refine r_iadd dX10_oddsOf_43 ?_
        refine r_iret dX10_oddsOf_44 rfl rfl ?_
        exact ⟨_, rfl, by rw [f_X10_oddsOf, if_pos c1, if_pos c2, if_pos c3], rfl⟩
      · refine r_iconst (v := (4 : Int32)) dX10_oddsOf_38 (by decide) ?_
        refine r_goto (tgt := 43) dX10_oddsOf_39 (by decide) ?_
        refine r_iadd dX10_oddsOf_43 ?_
        refine r_iret dX10_oddsOf_44 rfl rfl ?_
        exact ⟨_, rfl, by rw [f_X10_oddsOf, if_pos c1, if_pos c2, if_neg c3], rfl⟩
    · refine r_iconst (v := (2 : Int32)) dX10_oddsOf_23 (by decide) ?_
      refine r_goto (tgt := 28) dX10_oddsOf_24 (by decide) ?_
      refine r_iadd dX10_oddsOf_28 ?_
      refine r_aload_n dX10_oddsOf_29 rfl ?_
      refine r_iload_n dX10_oddsOf_30 rfl ?_
      refine r_iconst (v := (2 : Int32)) dX10_oddsOf_31 (by decide) ?_
      refine m_callW dX10_oddsOf_32 mf_X10_isOdd ml_RX10_199 (ok_X10_isOdd (d := d - 1) hE (by omega) _ _ _ (by with_reducible first | assumption | exact h0.at _ h2 | exact h0.says _ | exact h0.holds _ | exact P3.a | exact P3.b | exact P3.c) (by with_reducible first | assumption | exact h0.at _ h2 | exact h0.says _ | exact h0.holds _ | exact P3.a | exact P3.b | exact P3.c) (by with_reducible first | assumption | exact h0.at _ h2 | exact h0.says _ | exact h0.holds _ | exact P3.a | exact P3.b | exact P3.c)) rfl rfl rfl (Nat.le_of_ble_eq_true rfl) (by omega) ?_
      refine r_if_eq (tgt := 42) dX10_oddsOf_35 (by decide) (fun c4 => ?_) (fun c4 => ?_)
      · refine r_iconst (v := (0 : Int32)) dX10_oddsOf_42 (by decide) ?_
        refine r_iadd dX10_oddsOf_43 ?_
        refine r_iret dX10_oddsOf_44 rfl rfl ?_
        exact ⟨_, rfl, by rw [f_X10_oddsOf, if_pos c1, if_neg c2, if_pos c4], rfl⟩
      · refine r_iconst (v := (4 : Int32)) dX10_oddsOf_38 (by decide) ?_
        refine r_goto (tgt := 43) dX10_oddsOf_39 (by decide) ?_
        refine r_iadd dX10_oddsOf_43 ?_
        refine r_iret dX10_oddsOf_44 rfl rfl ?_
        exact ⟨_, rfl, by rw [f_X10_oddsOf, if_pos c1, if_neg c2, if_neg c4], rfl⟩
  · refine r_iconst (v := (1 : Int32)) dX10_oddsOf_9 (by decide) ?_
    refine r_goto (tgt := 14) dX10_oddsOf_10 (by decide) ?_
    refine r_aload_n dX10_oddsOf_14 rfl ?_
    refine r_iload_n dX10_oddsOf_15 rfl ?_
    refine r_iconst (v := (1 : Int32)) dX10_oddsOf_16 (by decide) ?_
    refine m_callW dX10_oddsOf_17 mf_X10_isOdd ml_RX10_199 (ok_X10_isOdd (d := d - 1) hE (by omega) _ _ _ (by with_reducible first | assumption | exact h0.at _ h2 | exact h0.says _ | exact h0.holds _ | exact P3.a | exact P3.b | exact P3.c) (by with_reducible first | assumption | exact h0.at _ h2 | exact h0.says _ | exact h0.holds _ | exact P3.a | exact P3.b | exact P3.c) (by with_reducible first | assumption | exact h0.at _ h2 | exact h0.says _ | exact h0.holds _ | exact P3.a | exact P3.b | exact P3.c)) rfl rfl rfl (Nat.le_of_ble_eq_true rfl) (by omega) ?_
    refine r_if_eq (tgt := 27) dX10_oddsOf_20 (by decide) (fun c5 => ?_) (fun c5 => ?_)
    · refine r_iconst (v := (0 : Int32)) dX10_oddsOf_27 (by decide) ?_
      refine r_iadd dX10_oddsOf_28 ?_
      refine r_aload_n dX10_oddsOf_29 rfl ?_
      refine r_iload_n dX10_oddsOf_30 rfl ?_
      refine r_iconst (v := (2 : Int32)) dX10_oddsOf_31 (by decide) ?_
      refine m_callW dX10_oddsOf_32 mf_X10_isOdd ml_RX10_199 (ok_X10_isOdd (d := d - 1) hE (by omega) _ _ _ (by with_reducible first | assumption | exact h0.at _ h2 | exact h0.says _ | exact h0.holds _ | exact P3.a | exact P3.b | exact P3.c) (by with_reducible first | assumption | exact h0.at _ h2 | exact h0.says _ | exact h0.holds _ | exact P3.a | exact P3.b | exact P3.c) (by with_reducible first | assumption | exact h0.at _ h2 | exact h0.says _ | exact h0.holds _ | exact P3.a | exact P3.b | exact P3.c)) rfl rfl rfl (Nat.le_of_ble_eq_true rfl) (by omega) ?_
      refine r_if_eq (tgt := 42) dX10_oddsOf_35 (by decide) (fun c6 => ?_) (fun c6 => ?_)
      · refine r_iconst (v := (0 : Int32)) dX10_oddsOf_42 (by decide) ?_
        refine r_iadd dX10_oddsOf_43 ?_
        refine r_iret dX10_oddsOf_44 rfl rfl ?_
        exact ⟨_, rfl, by rw [f_X10_oddsOf, if_neg c1, if_pos c5, if_pos c6], rfl⟩
      · refine r_iconst (v := (4 : Int32)) dX10_oddsOf_38 (by decide) ?_
        refine r_goto (tgt := 43) dX10_oddsOf_39 (by decide) ?_
        refine r_iadd dX10_oddsOf_43 ?_
        refine r_iret dX10_oddsOf_44 rfl rfl ?_
        exact ⟨_, rfl, by rw [f_X10_oddsOf, if_neg c1, if_pos c5, if_neg c6], rfl⟩
    · refine r_iconst (v := (2 : Int32)) dX10_oddsOf_23 (by decide) ?_
      refine r_goto (tgt := 28) dX10_oddsOf_24 (by decide) ?_
      refine r_iadd dX10_oddsOf_28 ?_
      refine r_aload_n dX10_oddsOf_29 rfl ?_
      refine r_iload_n dX10_oddsOf_30 rfl ?_
      refine r_iconst (v := (2 : Int32)) dX10_oddsOf_31 (by decide) ?_
      refine m_callW dX10_oddsOf_32 mf_X10_isOdd ml_RX10_199 (ok_X10_isOdd (d := d - 1) hE (by omega) _ _ _ (by with_reducible first | assumption | exact h0.at _ h2 | exact h0.says _ | exact h0.holds _ | exact P3.a | exact P3.b | exact P3.c) (by with_reducible first | assumption | exact h0.at _ h2 | exact h0.says _ | exact h0.holds _ | exact P3.a | exact P3.b | exact P3.c) (by with_reducible first | assumption | exact h0.at _ h2 | exact h0.says _ | exact h0.holds _ | exact P3.a | exact P3.b | exact P3.c)) rfl rfl rfl (Nat.le_of_ble_eq_true rfl) (by omega) ?_
      refine r_if_eq (tgt := 42) dX10_oddsOf_35 (by decide) (fun c7 => ?_) (fun c7 => ?_)
      · refine r_iconst (v := (0 : Int32)) dX10_oddsOf_42 (by decide) ?_
        refine r_iadd dX10_oddsOf_43 ?_
        refine r_iret dX10_oddsOf_44 rfl rfl ?_
        exact ⟨_, rfl, by rw [f_X10_oddsOf, if_neg c1, if_neg c5, if_pos c7], rfl⟩
      · refine r_iconst (v := (4 : Int32)) dX10_oddsOf_38 (by decide) ?_
        refine r_goto (tgt := 43) dX10_oddsOf_39 (by decide) ?_
        refine r_iadd dX10_oddsOf_43 ?_
        refine r_iret dX10_oddsOf_44 rfl rfl ?_
        exact ⟨_, rfl, by rw [f_X10_oddsOf, if_neg c1, if_neg c5, if_neg c7], rfl⟩

def f_X10_isBarred (σ : MSt) (p1 : Int32) : Int32 := (if (f_X10_barsOf σ p1) = 0 then (if (σ.2.2 8 (Int32.toNatClampNeg (σ.2.2 17 (Int32.toNatClampNeg p1)))) = 0 then (1 : Int32) else (0 : Int32)) else (1 : Int32))
set_option maxRecDepth 100000 in
set_option maxHeartbeats 1000000 in
theorem ok_X10_isBarred {g : GC} {E : ME} {d : Nat} (hE : MEok E) (hd : 4 ≤ d) (σ : MSt) (p1 : Int32) (h0 : MInv σ) (h1 : vp_in p1 24) : MC g E d yX10_isBarred cX10_isBarred 2 (some FieldType.boolean) [.int p1] (fun v σ' => v = some (.int (f_X10_isBarred σ p1)) ∧ σ' = σ) σ := by
  refine AM.of2 (own := RX10) (nm := "isBarred") (L0 := [(0, .ref E.2.2), (1, .int p1)]) (by decide) rfl rfl (Nat.le_of_ble_eq_true rfl) rfl ?_
  refine r_aload_n dX10_isBarred_0 rfl ?_
  refine r_iload_n dX10_isBarred_1 rfl ?_
  refine m_callW dX10_isBarred_2 mf_X10_barsOf ml_RX10_202 (ok_X10_barsOf (d := d - 1) hE (by omega) _ _ (by with_reducible first | assumption | exact h0.at _ h2 | exact h0.says _ | exact h0.holds _ | exact P3.a | exact P3.b | exact P3.c) (by with_reducible first | assumption | exact h0.at _ h2 | exact h0.says _ | exact h0.holds _ | exact P3.a | exact P3.b | exact P3.c)) rfl rfl rfl (Nat.le_of_ble_eq_true rfl) (by omega) ?_
  refine r_if_ne (tgt := 22) dX10_isBarred_5 (by decide) (fun c1 => ?_) (fun c1 => ?_)
  · refine r_iconst (v := (1 : Int32)) dX10_isBarred_22 (by decide) ?_
    refine r_goto (tgt := 27) dX10_isBarred_23 (by decide) ?_
    refine r_iret dX10_isBarred_27 rfl (by decide) ?_
    exact ⟨_, rfl, by rw [f_X10_isBarred, if_neg c1], rfl⟩
  · refine r_aload_n dX10_isBarred_8 rfl ?_
    refine m_get dX10_isBarred_9 fl_RX10_26 rfl ?_
    refine r_aload_n dX10_isBarred_12 rfl ?_
    refine m_get dX10_isBarred_13 fl_RX10_50 rfl ?_
    refine r_iload_n dX10_isBarred_16 rfl ?_
    refine m_iald (k := 17) (N := 24) hE (by decide) rfl rfl dX10_isBarred_17 (by with_reducible first | assumption | exact h0.at _ h2 | exact h0.says _ | exact h0.holds _ | exact P3.a | exact P3.b | exact P3.c) ?_
    refine m_iald (k := 8) (N := 8) hE (by decide) rfl rfl dX10_isBarred_18 (by with_reducible first | assumption | exact h0.at _ h2 | exact h0.says _ | exact h0.holds _ | exact P3.a | exact P3.b | exact P3.c) ?_
    refine r_if_ne (tgt := 26) dX10_isBarred_19 (by decide) (fun c2 => ?_) (fun c2 => ?_)
    · refine r_iconst (v := (0 : Int32)) dX10_isBarred_26 (by decide) ?_
      refine r_iret dX10_isBarred_27 rfl (by decide) ?_
      exact ⟨_, rfl, by rw [f_X10_isBarred, if_pos c1, if_neg c2], rfl⟩
    · refine r_iconst (v := (1 : Int32)) dX10_isBarred_22 (by decide) ?_
      refine r_goto (tgt := 27) dX10_isBarred_23 (by decide) ?_
      refine r_iret dX10_isBarred_27 rfl (by decide) ?_
      exact ⟨_, rfl, by rw [f_X10_isBarred, if_pos c1, if_pos c2], rfl⟩
theorem bz_X10_isBarred (σ : MSt) (p1 : Int32) : narrow .boolean (.int (f_X10_isBarred σ p1)) = .int (f_X10_isBarred σ p1) := by
  unfold f_X10_isBarred
  (repeat' split) <;> first | rfl | decide | apply bz_X10_in

set_option maxRecDepth 100000 in
theorem bits_tab : ∀ j, j < 8 → 0 < j → ¬ (nI j &&& (nI j - 1) < 0 ∨ 8 ≤ (nI j &&& (nI j - 1)).toNatClampNeg) ∧ (nI j &&& (nI j - 1)).toNatClampNeg < (nI j).toNatClampNeg := by decide +kernel
theorem bits_dn {x : Int32} (h : vp_in x 8) (hx : ¬ x = 0) : vp_in (x &&& (x - 1)) 8 ∧ (x &&& (x - 1)).toNatClampNeg < x.toNatClampNeg := by
  obtain ⟨j, hj, rfl⟩ := vp_in_of h (by decide)
  exact bits_tab j hj (by rcases Nat.eq_zero_or_pos j with q | q; exact absurd (by rw [q]; rfl) hx; exact q)
theorem in_lt {x : Int32} {N : Nat} (h : vp_in x N) : x.toNatClampNeg < N := Nat.not_le.mp (fun q => h (Or.inr q))

def f_X10_bitsOf_L4 : Nat → Int32 → Int32 → Int32 → Int32
  | 0, _, _, _ => 0
  | n + 1, l0, l1, l2 => (if l2 = 0 then l1 else (f_X10_bitsOf_L4 n  l0 (l1 + (1 : Int32)) (l2 &&& (l2 - (1 : Int32)))))
set_option maxRecDepth 100000 in
set_option maxHeartbeats 1000000 in
theorem lp_X10_bitsOf_4 {g : GC} {d : Nat} {h : hH} {K : Option Value → hH → Prop} (hd : 0 ≤ d) : ∀ (fuel : Nat) (l0 : Int32) (l1 : Int32) (l2 : Int32), vp_in l2 8 → l2.toNatClampNeg < fuel → K (some (.int (f_X10_bitsOf_L4 fuel l0 l1 l2))) h → AW g RX10 cX10_bitsOf 3 (some FieldType.int) "bitsOf" d 0 0 K 4 [(0, .int l0), (1, .int l1), (2, .int l2)] [] h := by
  intro fuel
  induction fuel with
  | zero => intro l0 l1 l2 i0 hm hK; exact absurd hm (Nat.not_lt_zero _)
  | succ n ih =>
    intro l0 l1 l2 i0 hm hK
    refine r_iload_n dX10_bitsOf_4 rfl ?_
    refine r_if_eq (tgt := 20) dX10_bitsOf_5 (by decide) (fun c1 => ?_) (fun c1 => ?_)
    · refine r_iload_n dX10_bitsOf_20 rfl ?_
      refine r_iret dX10_bitsOf_21 rfl rfl ?_
      exact (by rw [f_X10_bitsOf_L4, if_pos c1] at hK; exact hK)
    · refine r_iinc2 (w := (1 : Int32)) dX10_bitsOf_8 rfl (by decide) (by decide) ?_
      refine r_iload_n dX10_bitsOf_11 rfl ?_
      refine r_iload_n dX10_bitsOf_12 rfl ?_
      refine r_iconst (v := (1 : Int32)) dX10_bitsOf_13 (by decide) ?_
      refine r_isub dX10_bitsOf_14 ?_
      refine r_iand dX10_bitsOf_15 ?_
      refine r_istore_n dX10_bitsOf_16 (by decide) ?_
      refine r_goto (tgt := 4) dX10_bitsOf_17 (by decide) ?_
      refine r_loc (L' := [(0, .int l0), (1, .int (l1 + (1 : Int32))), (2, .int (l2 &&& (l2 - (1 : Int32))))]) [2, 1, 0] rfl ?_
      exact ih  l0 (l1 + (1 : Int32)) (l2 &&& (l2 - (1 : Int32))) (by exact (bits_dn i0 (by with_reducible assumption)).1) (by have u := (bits_dn i0 (by with_reducible assumption)).2; omega) (by rw [f_X10_bitsOf_L4, if_neg c1] at hK; exact hK)
def f_X10_bitsOf (p1 : Int32) : Int32 := (f_X10_bitsOf_L4 (8)  p1 (0 : Int32) p1)
set_option maxRecDepth 100000 in
set_option maxHeartbeats 1000000 in
theorem ok_X10_bitsOf {g : GC} {d : Nat} {h : hH} (hd : 0 ≤ d) (p1 : Int32) (h0 : vp_in p1 8) : AM g d 0 0 yX10_bitsOf cX10_bitsOf 3 (some FieldType.int) [.int p1] h (fun v h' => v = some (.int (f_X10_bitsOf p1)) ∧ h' = h) := by
  refine AM.of2 (own := RX10) (nm := "bitsOf") (L0 := [(0, .int p1)]) (by decide) rfl rfl (Nat.le_of_ble_eq_true rfl) rfl ?_
  refine r_iconst (v := (0 : Int32)) dX10_bitsOf_0 (by decide) ?_
  refine r_istore_n dX10_bitsOf_1 (by decide) ?_
  refine r_iload_n dX10_bitsOf_2 rfl ?_
  refine r_istore_n dX10_bitsOf_3 (by decide) ?_
  refine r_loc (L' := [(0, .int p1), (1, .int (0 : Int32)), (2, .int p1)]) [2, 1, 0] rfl ?_
  exact lp_X10_bitsOf_4 (by omega) (8)  p1 (0 : Int32) p1 (by assumption) (in_lt h0) ⟨by rw [f_X10_bitsOf], rfl⟩

/-- a count less one: -1 .. N - 1 -/
def Cd (x : Int32) (N : Nat) : Prop := ∃ k : Nat, k ≤ N ∧ x = nI k - 1
theorem Cd.dn {l : Int32} {N : Nat} (hN : N < 1000000) (hl : Cd l N) (c : ¬ l < 0) : vp_in l N ∧ Cd (l + -1) N ∧ ((l + -1) + 1).toNatClampNeg < (l + 1).toNatClampNeg := by
  obtain ⟨k, hk, rfl⟩ := hl
  cases k with
  | zero => exact absurd (by decide) c
  | succ j =>
    rw [nI_pred]
    refine ⟨vp_in_nI (by omega) (by omega), ⟨j, by omega, by rw [Int32.sub_eq_add_neg]⟩, ?_⟩
    rw [Int32.add_assoc, show (-1 : Int32) + 1 = 0 from rfl, Int32.add_zero, nI_1, nI_clamp (by omega), nI_clamp (by omega)]
    omega
theorem Ct.cd {x : Int32} {N : Nat} (h : Ct x N) : Cd (x - 1) N := by
  obtain ⟨k, hk, rfl⟩ := h
  exact ⟨k, hk, rfl⟩
theorem Ct.m {x : Int32} {N : Nat} (hN : N < 1000000) (h : Ct x N) : ((x - 1) + 1).toNatClampNeg ≤ N := by
  obtain ⟨k, hk, rfl⟩ := h
  rw [Int32.sub_add_cancel, nI_clamp (by omega)]
  exact hk

def f_X10_lastOf_L4 : Nat → MSt → Int32 → Int32 → Int32 → Int32
  | 0, _, _, _, _ => 0
  | n + 1, σ, l1, l2, l3 => (if l3 < 0 then (-1 : Int32) else (if (σ.2.2 21 (Int32.toNatClampNeg l3)) = l1 then l3 else (f_X10_lastOf_L4 n σ l1 l2 (l3 + (-1 : Int32)))))
set_option maxRecDepth 100000 in
set_option maxHeartbeats 1000000 in
theorem lp_X10_lastOf_4 {g : GC} {E : ME} {d : Nat} {K : Option Value → MSt → Prop} (hE : MEok E) (hd : 0 ≤ d) : ∀ (fuel : Nat) (σ : MSt) (l1 : Int32) (l2 : Int32) (l3 : Int32), Cd l3 40 → (l3 + 1).toNatClampNeg < fuel → K (some (.int (f_X10_lastOf_L4 fuel σ l1 l2 l3))) σ → MW g E cX10_lastOf 4 (some FieldType.int) "lastOf" d K 4 [(0, .ref E.2.2), (1, .int l1), (2, .int l2), (3, .int l3)] [] σ := by
  intro fuel
  induction fuel with
  | zero => intro σ l1 l2 l3 i0 hm hK; exact absurd hm (Nat.not_lt_zero _)
  | succ n ih =>
    intro σ l1 l2 l3 i0 hm hK
    refine r_iload_n dX10_lastOf_4 rfl ?_
    refine r_if_lt (tgt := 26) dX10_lastOf_5 (by decide) (fun c1 => ?_) (fun c1 => ?_)
    · refine r_iconst (v := (-1 : Int32)) dX10_lastOf_26 (by decide) ?_
      refine r_iret dX10_lastOf_27 rfl rfl ?_
      exact ⟨_, rfl, by rw [f_X10_lastOf_L4, if_pos c1] at hK; exact hK⟩
    · refine r_aload_n dX10_lastOf_8 rfl ?_
      refine m_get dX10_lastOf_9 fl_RX10_59 rfl ?_
      refine r_iload_n dX10_lastOf_12 rfl ?_
      refine m_iald (k := 21) (N := 40) hE (by decide) rfl rfl dX10_lastOf_13 (by with_reducible exact (Cd.dn (by decide) i0 (by with_reducible assumption)).1) ?_
      refine r_iload_n dX10_lastOf_14 rfl ?_
      refine r_icmp_ne (tgt := 20) dX10_lastOf_15 (by decide) (fun c2 => ?_) (fun c2 => ?_)
      · refine r_iinc2 (w := (-1 : Int32)) dX10_lastOf_20 rfl (by decide) (by decide) ?_
        refine r_goto (tgt := 4) dX10_lastOf_23 (by decide) ?_
        refine r_loc (L' := [(0, .ref E.2.2), (1, .int l1), (2, .int l2), (3, .int (l3 + (-1 : Int32)))]) [1, 2, 3, 0] rfl ?_
        exact ih σ  l1 l2 (l3 + (-1 : Int32)) (by exact (Cd.dn (by decide) i0 (by with_reducible assumption)).2.1) (by have u := (Cd.dn (by decide) i0 (by with_reducible assumption)).2.2; omega) (by rw [f_X10_lastOf_L4, if_neg c1, if_neg c2] at hK; exact hK)
      · refine r_iload_n dX10_lastOf_18 rfl ?_
        refine r_iret dX10_lastOf_19 rfl rfl ?_
        exact ⟨_, rfl, by rw [f_X10_lastOf_L4, if_neg c1, if_pos c2] at hK; exact hK⟩
def f_X10_lastOf (σ : MSt) (p1 : Int32) (p2 : Int32) : Int32 := (f_X10_lastOf_L4 (41) σ p1 p2 (p2 - (1 : Int32)))
set_option maxRecDepth 100000 in
set_option maxHeartbeats 1000000 in
theorem ok_X10_lastOf {g : GC} {E : ME} {d : Nat} (hE : MEok E) (hd : 0 ≤ d) (σ : MSt) (p1 : Int32) (p2 : Int32) (h0 : Ct p2 40) : MC g E d yX10_lastOf cX10_lastOf 4 (some FieldType.int) [.int p1, .int p2] (fun v σ' => v = some (.int (f_X10_lastOf σ p1 p2)) ∧ σ' = σ) σ := by
  refine AM.of2 (own := RX10) (nm := "lastOf") (L0 := [(0, .ref E.2.2), (1, .int p1), (2, .int p2)]) (by decide) rfl rfl (Nat.le_of_ble_eq_true rfl) rfl ?_
  refine r_iload_n dX10_lastOf_0 rfl ?_
  refine r_iconst (v := (1 : Int32)) dX10_lastOf_1 (by decide) ?_
  refine r_isub dX10_lastOf_2 ?_
  refine r_istore_n dX10_lastOf_3 (by decide) ?_
  refine r_loc (L' := [(0, .ref E.2.2), (1, .int p1), (2, .int p2), (3, .int (p2 - (1 : Int32)))]) [1, 2, 3, 0] rfl ?_
  exact lp_X10_lastOf_4 hE (by omega) (41) σ p1 p2 (p2 - (1 : Int32)) (by exact Ct.cd h0) (by have u := Ct.m (by decide) h0; omega) ⟨by rw [f_X10_lastOf], rfl⟩
