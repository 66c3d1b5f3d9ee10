def f_X10_in (p1 : Int64) (p2 : Int64) (p3 : Int64) : Int32 := (if (lg_cmp p1 p2) < 0 then (0 : Int32) else (if 0 < (lg_cmp p1 p3) then (0 : Int32) else (1 : Int32)))
set_option maxRecDepth 100000 in
set_option maxHeartbeats 1000000 in
theorem ok_X10_in {g : GC} {d : Nat} {h : hH} (hd : 0 ≤ d) (p1 : Int64) (p2 : Int64) (p3 : Int64)  : AM g d 0 0 yX10_in cX10_in 6 (some FieldType.boolean) [.long p1, .long p2, .long p3] h (fun v h' => v = some (.int (f_X10_in p1 p2 p3)) ∧ h' = h) := by
  refine AM.of2 (own := RX10) (nm := "in") (L0 := [(0, .long p1), (2, .long p2), (4, .long p3)]) (by decide) rfl rfl (Nat.le_of_ble_eq_true rfl) rfl ?_
  refine r_lload_n dX10_in_0 rfl ?_
  refine r_lload_n dX10_in_1 rfl ?_
  refine r_lcmp dX10_in_2 ?_
  refine r_if_lt (tgt := 17) dX10_in_3 (by decide) (fun c1 => ?_) (fun c1 => ?_)
  · refine r_iconst (v := (0 : Int32)) dX10_in_17 (by decide) ?_
    refine r_iret dX10_in_18 rfl (by decide) ?_
    exact ⟨by rw [f_X10_in, if_pos c1], rfl⟩
  · refine r_lload_n dX10_in_6 rfl ?_
    refine r_lload dX10_in_7 rfl ?_
    refine r_lcmp dX10_in_9 ?_
    refine r_if_gt (tgt := 17) dX10_in_10 (by decide) (fun c2 => ?_) (fun c2 => ?_)
    · refine r_iconst (v := (0 : Int32)) dX10_in_17 (by decide) ?_
      refine r_iret dX10_in_18 rfl (by decide) ?_
      exact ⟨by rw [f_X10_in, if_neg c1, if_pos c2], rfl⟩
    · refine r_iconst (v := (1 : Int32)) dX10_in_13 (by decide) ?_
      refine r_goto (tgt := 18) dX10_in_14 (by decide) ?_
      refine r_iret dX10_in_18 rfl (by decide) ?_
      exact ⟨by rw [f_X10_in, if_neg c1, if_neg c2], rfl⟩
theorem bz_X10_in (p1 : Int64) (p2 : Int64) (p3 : Int64) : narrow .boolean (.int (f_X10_in p1 p2 p3)) = .int (f_X10_in p1 p2 p3) := by
  unfold f_X10_in
  (repeat' split) <;> first | rfl | decide | apply bz_X10_in

def f_X10_partOf (p1 : Int32) (p2 : Int32) : Int32 := (if p2 = 0 then (p1 / (100 : Int32)) else (if p2 = (1 : Int32) then ((p1 / (10 : Int32)) - (p1 / (10 : Int32)) / (10 : Int32) * (10 : Int32)) else (p1 - p1 / (10 : Int32) * (10 : Int32))))
set_option maxRecDepth 100000 in
set_option maxHeartbeats 1000000 in
theorem ok_X10_partOf {g : GC} {d : Nat} {h : hH} (hd : 0 ≤ d) (p1 : Int32) (p2 : Int32)  : AM g d 0 0 yX10_partOf cX10_partOf 2 (some FieldType.int) [.int p1, .int p2] h (fun v h' => v = some (.int (f_X10_partOf p1 p2)) ∧ h' = h) := by
  refine AM.of2 (own := RX10) (nm := "partOf") (L0 := [(0, .int p1), (1, .int p2)]) (by decide) rfl rfl (Nat.le_of_ble_eq_true rfl) rfl ?_
  refine r_iload_n dX10_partOf_0 rfl ?_
  refine r_if_ne (tgt := 11) dX10_partOf_1 (by decide) (fun c1 => ?_) (fun c1 => ?_)
  · refine r_iload_n dX10_partOf_11 rfl ?_
    refine r_iconst (v := (1 : Int32)) dX10_partOf_12 (by decide) ?_
    refine r_icmp_ne (tgt := 26) dX10_partOf_13 (by decide) (fun c2 => ?_) (fun c2 => ?_)
    · refine r_iload_n dX10_partOf_26 rfl ?_
      refine r_bipush (v := (10 : Int32)) dX10_partOf_27 (by decide) ?_
      refine r_irem dX10_partOf_29 (by decide) ?_
      refine r_iret dX10_partOf_30 rfl rfl ?_
      exact ⟨by rw [f_X10_partOf, if_neg c1, if_neg c2], rfl⟩
    · refine r_iload_n dX10_partOf_16 rfl ?_
      refine r_bipush (v := (10 : Int32)) dX10_partOf_17 (by decide) ?_
      refine r_idiv dX10_partOf_19 (by decide) ?_
      refine r_bipush (v := (10 : Int32)) dX10_partOf_20 (by decide) ?_
      refine r_irem dX10_partOf_22 (by decide) ?_
      refine r_goto (tgt := 30) dX10_partOf_23 (by decide) ?_
      refine r_iret dX10_partOf_30 rfl rfl ?_
      exact ⟨by rw [f_X10_partOf, if_neg c1, if_pos c2], rfl⟩
  · refine r_iload_n dX10_partOf_4 rfl ?_
    refine r_bipush (v := (100 : Int32)) dX10_partOf_5 (by decide) ?_
    refine r_idiv dX10_partOf_7 (by decide) ?_
    refine r_goto (tgt := 30) dX10_partOf_8 (by decide) ?_
    refine r_iret dX10_partOf_30 rfl rfl ?_
    exact ⟨by rw [f_X10_partOf, if_pos c1], rfl⟩

def f_X10_areParts (p1 : Int32) : Int32 := (if (f_X10_in (Int32.toInt64 p1) (0 : Int64) (333 : Int64)) = 0 then (0 : Int32) else (if (4 : Int32) ≤ ((p1 / (10 : Int32)) - (p1 / (10 : Int32)) / (10 : Int32) * (10 : Int32)) then (0 : Int32) else (if (4 : Int32) ≤ (p1 - p1 / (10 : Int32) * (10 : Int32)) then (0 : Int32) else (1 : Int32))))
set_option maxRecDepth 100000 in
set_option maxHeartbeats 1000000 in
theorem ok_X10_areParts {g : GC} {d : Nat} {h : hH} (hd : 1 ≤ d) (p1 : Int32)  : AM g d 0 0 yX10_areParts cX10_areParts 1 (some FieldType.boolean) [.int p1] h (fun v h' => v = some (.int (f_X10_areParts p1)) ∧ h' = h) := by
  refine AM.of2 (own := RX10) (nm := "areParts") (L0 := [(0, .int p1)]) (by decide) rfl rfl (Nat.le_of_ble_eq_true rfl) rfl ?_
  refine r_iload_n dX10_areParts_0 rfl ?_
  refine r_i2l dX10_areParts_1 ?_
  refine r_lconst (v := (0 : Int64)) dX10_areParts_2 (by decide) ?_
  refine r_ldc2 dX10_areParts_3 kc_RX10_153 ?_
  refine r_callS0 dX10_areParts_6 mf_X10_in ml_RX10_149 (ok_X10_in (d := d - 1) (by omega) _ _ _) rfl rfl (Nat.le_of_ble_eq_true rfl) (by omega) ?_
  refine r_if_eq (tgt := 35) dX10_areParts_9 (by decide) (fun c1 => ?_) (fun c1 => ?_)
  · refine r_iconst (v := (0 : Int32)) dX10_areParts_35 (by decide) ?_
    refine r_iret dX10_areParts_36 rfl (by decide) ?_
    exact ⟨by rw [f_X10_areParts, if_pos c1], rfl⟩
  · refine r_iload_n dX10_areParts_12 rfl ?_
    refine r_bipush (v := (10 : Int32)) dX10_areParts_13 (by decide) ?_
    refine r_idiv dX10_areParts_15 (by decide) ?_
    refine r_bipush (v := (10 : Int32)) dX10_areParts_16 (by decide) ?_
    refine r_irem dX10_areParts_18 (by decide) ?_
    refine r_iconst (v := (4 : Int32)) dX10_areParts_19 (by decide) ?_
    refine r_icmp_ge (tgt := 35) dX10_areParts_20 (by decide) (fun c2 => ?_) (fun c2 => ?_)
    · refine r_iconst (v := (0 : Int32)) dX10_areParts_35 (by decide) ?_
      refine r_iret dX10_areParts_36 rfl (by decide) ?_
      exact ⟨by rw [f_X10_areParts, if_neg c1, if_pos c2], rfl⟩
    · refine r_iload_n dX10_areParts_23 rfl ?_
      refine r_bipush (v := (10 : Int32)) dX10_areParts_24 (by decide) ?_
      refine r_irem dX10_areParts_26 (by decide) ?_
      refine r_iconst (v := (4 : Int32)) dX10_areParts_27 (by decide) ?_
      refine r_icmp_ge (tgt := 35) dX10_areParts_28 (by decide) (fun c3 => ?_) (fun c3 => ?_)
      · refine r_iconst (v := (0 : Int32)) dX10_areParts_35 (by decide) ?_
        refine r_iret dX10_areParts_36 rfl (by decide) ?_
        exact ⟨by rw [f_X10_areParts, if_neg c1, if_neg c2, if_pos c3], rfl⟩
      · refine r_iconst (v := (1 : Int32)) dX10_areParts_31 (by decide) ?_
        refine r_goto (tgt := 36) dX10_areParts_32 (by decide) ?_
        refine r_iret dX10_areParts_36 rfl (by decide) ?_
        exact ⟨by rw [f_X10_areParts, if_neg c1, if_neg c2, if_neg c3], rfl⟩
theorem bz_X10_areParts (p1 : Int32) : narrow .boolean (.int (f_X10_areParts p1)) = .int (f_X10_areParts p1) := by
  unfold f_X10_areParts
  (repeat' split) <;> first | rfl | decide | apply bz_X10_in

def f_X10_weightOf (p1 : Int32) : Int32 := (if p1 = (1 : Int32) then (5 : Int32) else (if p1 = (3 : Int32) then (3 : Int32) else (if p1 = (4 : Int32) then (1 : Int32) else (if p1 = (5 : Int32) then (1 : Int32) else (2 : Int32)))))
set_option maxRecDepth 100000 in
set_option maxHeartbeats 1000000 in
theorem ok_X10_weightOf {g : GC} {d : Nat} {h : hH} (hd : 0 ≤ d) (p1 : Int32)  : AM g d 0 0 yX10_weightOf cX10_weightOf 1 (some FieldType.int) [.int p1] h (fun v h' => v = some (.int (f_X10_weightOf p1)) ∧ h' = h) := by
  refine AM.of2 (own := RX10) (nm := "weightOf") (L0 := [(0, .int p1)]) (by decide) rfl rfl (Nat.le_of_ble_eq_true rfl) rfl ?_
  refine r_iload_n dX10_weightOf_0 rfl ?_
  refine r_iconst (v := (1 : Int32)) dX10_weightOf_1 (by decide) ?_
  refine r_icmp_ne (tgt := 9) dX10_weightOf_2 (by decide) (fun c1 => ?_) (fun c1 => ?_)
  · refine r_iload_n dX10_weightOf_9 rfl ?_
    refine r_iconst (v := (3 : Int32)) dX10_weightOf_10 (by decide) ?_
    refine r_icmp_ne (tgt := 18) dX10_weightOf_11 (by decide) (fun c2 => ?_) (fun c2 => ?_)
    · refine r_iload_n dX10_weightOf_18 rfl ?_
      refine r_iconst (v := (4 : Int32)) dX10_weightOf_19 (by decide) ?_
      refine r_icmp_eq (tgt := 28) dX10_weightOf_20 (by decide) (fun c3 => ?_) (fun c3 => ?_)
      · refine r_iconst (v := (1 : Int32)) dX10_weightOf_28 (by decide) ?_
        refine r_goto (tgt := 33) dX10_weightOf_29 (by decide) ?_
        refine r_iret dX10_weightOf_33 rfl rfl ?_
        exact ⟨by rw [f_X10_weightOf, if_neg c1, if_neg c2, if_pos c3], rfl⟩
      · refine r_iload_n dX10_weightOf_23 rfl ?_
        refine r_iconst (v := (5 : Int32)) dX10_weightOf_24 (by decide) ?_
        refine r_icmp_ne (tgt := 32) dX10_weightOf_25 (by decide) (fun c4 => ?_) (fun c4 => ?_)
        · refine r_iconst (v := (2 : Int32)) dX10_weightOf_32 (by decide) ?_
          refine r_iret dX10_weightOf_33 rfl rfl ?_
          exact ⟨by rw [f_X10_weightOf, if_neg c1, if_neg c2, if_neg c3, if_neg c4], rfl⟩
        · refine r_iconst (v := (1 : Int32)) dX10_weightOf_28 (by decide) ?_
          refine r_goto (tgt := 33) dX10_weightOf_29 (by decide) ?_
          refine r_iret dX10_weightOf_33 rfl rfl ?_
          exact ⟨by rw [f_X10_weightOf, if_neg c1, if_neg c2, if_neg c3, if_pos c4], rfl⟩
    · refine r_iconst (v := (3 : Int32)) dX10_weightOf_14 (by decide) ?_
      refine r_goto (tgt := 33) dX10_weightOf_15 (by decide) ?_
      refine r_iret dX10_weightOf_33 rfl rfl ?_
      exact ⟨by rw [f_X10_weightOf, if_neg c1, if_pos c2], rfl⟩
  · refine r_iconst (v := (5 : Int32)) dX10_weightOf_5 (by decide) ?_
    refine r_goto (tgt := 33) dX10_weightOf_6 (by decide) ?_
    refine r_iret dX10_weightOf_33 rfl rfl ?_
    exact ⟨by rw [f_X10_weightOf, if_pos c1], rfl⟩

def f_X10_within (p1 : Int32) (p2 : Int32) (p3 : Int32) : Int32 := (if p2 ≤ p1 then (if p1 ≤ p3 then p1 else p3) else p2)
set_option maxRecDepth 100000 in
set_option maxHeartbeats 1000000 in
theorem ok_X10_within {g : GC} {d : Nat} {h : hH} (hd : 0 ≤ d) (p1 : Int32) (p2 : Int32) (p3 : Int32)  : AM g d 0 0 yX10_within cX10_within 3 (some FieldType.int) [.int p1, .int p2, .int p3] h (fun v h' => v = some (.int (f_X10_within p1 p2 p3)) ∧ h' = h) := by
  refine AM.of2 (own := RX10) (nm := "within") (L0 := [(0, .int p1), (1, .int p2), (2, .int p3)]) (by decide) rfl rfl (Nat.le_of_ble_eq_true rfl) rfl ?_
  refine r_iload_n dX10_within_0 rfl ?_
  refine r_iload_n dX10_within_1 rfl ?_
  refine r_icmp_ge (tgt := 9) dX10_within_2 (by decide) (fun c1 => ?_) (fun c1 => ?_)
  · refine r_iload_n dX10_within_9 rfl ?_
    refine r_iload_n dX10_within_10 rfl ?_
    refine r_icmp_le (tgt := 18) dX10_within_11 (by decide) (fun c2 => ?_) (fun c2 => ?_)
    · refine r_iload_n dX10_within_18 rfl ?_
      refine r_iret dX10_within_19 rfl rfl ?_
      exact ⟨by rw [f_X10_within, if_pos c1, if_pos c2], rfl⟩
    · refine r_iload_n dX10_within_14 rfl ?_
      refine r_goto (tgt := 19) dX10_within_15 (by decide) ?_
      refine r_iret dX10_within_19 rfl rfl ?_
      exact ⟨by rw [f_X10_within, if_pos c1, if_neg c2], rfl⟩
  · refine r_iload_n dX10_within_5 rfl ?_
    refine r_goto (tgt := 19) dX10_within_6 (by decide) ?_
    refine r_iret dX10_within_19 rfl rfl ?_
    exact ⟨by rw [f_X10_within, if_neg c1], rfl⟩

def f_X10_over (p1 : Int32) : Int32 := (if p1 = 0 then (-1 : Int32) else (if p1 = (3 : Int32) then (1 : Int32) else (if p1 = (4 : Int32) then (2 : Int32) else (0 : Int32))))
set_option maxRecDepth 100000 in
set_option maxHeartbeats 1000000 in
theorem ok_X10_over {g : GC} {d : Nat} {h : hH} (hd : 0 ≤ d) (p1 : Int32)  : AM g d 0 0 yX10_over cX10_over 1 (some FieldType.int) [.int p1] h (fun v h' => v = some (.int (f_X10_over p1)) ∧ h' = h) := by
  refine AM.of2 (own := RX10) (nm := "over") (L0 := [(0, .int p1)]) (by decide) rfl rfl (Nat.le_of_ble_eq_true rfl) rfl ?_
  refine r_iload_n dX10_over_0 rfl ?_
  refine r_if_ne (tgt := 8) dX10_over_1 (by decide) (fun c1 => ?_) (fun c1 => ?_)
  · refine r_iload_n dX10_over_8 rfl ?_
    refine r_iconst (v := (3 : Int32)) dX10_over_9 (by decide) ?_
    refine r_icmp_ne (tgt := 17) dX10_over_10 (by decide) (fun c2 => ?_) (fun c2 => ?_)
    · refine r_iload_n dX10_over_17 rfl ?_
      refine r_iconst (v := (4 : Int32)) dX10_over_18 (by decide) ?_
      refine r_icmp_ne (tgt := 26) dX10_over_19 (by decide) (fun c3 => ?_) (fun c3 => ?_)
      · refine r_iconst (v := (0 : Int32)) dX10_over_26 (by decide) ?_
        refine r_iret dX10_over_27 rfl rfl ?_
        exact ⟨by rw [f_X10_over, if_neg c1, if_neg c2, if_neg c3], rfl⟩
      · refine r_iconst (v := (2 : Int32)) dX10_over_22 (by decide) ?_
        refine r_goto (tgt := 27) dX10_over_23 (by decide) ?_
        refine r_iret dX10_over_27 rfl rfl ?_
        exact ⟨by rw [f_X10_over, if_neg c1, if_neg c2, if_pos c3], rfl⟩
    · refine r_iconst (v := (1 : Int32)) dX10_over_13 (by decide) ?_
      refine r_goto (tgt := 27) dX10_over_14 (by decide) ?_
      refine r_iret dX10_over_27 rfl rfl ?_
      exact ⟨by rw [f_X10_over, if_neg c1, if_pos c2], rfl⟩
  · refine r_iconst (v := (-1 : Int32)) dX10_over_4 (by decide) ?_
    refine r_goto (tgt := 27) dX10_over_5 (by decide) ?_
    refine r_iret dX10_over_27 rfl rfl ?_
    exact ⟨by rw [f_X10_over, if_pos c1], rfl⟩

def f_X10_isHand (p1 : Int32) : Int32 := (f_X10_in (Int32.toInt64 p1) (0 : Int64) (9 : Int64))
set_option maxRecDepth 100000 in
set_option maxHeartbeats 1000000 in
theorem ok_X10_isHand {g : GC} {d : Nat} {h : hH} (hd : 1 ≤ d) (p1 : Int32)  : AM g d 0 0 yX10_isHand cX10_isHand 1 (some FieldType.boolean) [.int p1] h (fun v h' => v = some (.int (f_X10_isHand p1)) ∧ h' = h) := by
  refine AM.of2 (own := RX10) (nm := "isHand") (L0 := [(0, .int p1)]) (by decide) rfl rfl (Nat.le_of_ble_eq_true rfl) rfl ?_
  refine r_iload_n dX10_isHand_0 rfl ?_
  refine r_i2l dX10_isHand_1 ?_
  refine r_lconst (v := (0 : Int64)) dX10_isHand_2 (by decide) ?_
  refine r_ldc2 dX10_isHand_3 kc_RX10_404 ?_
  refine r_callS0 dX10_isHand_6 mf_X10_in ml_RX10_149 (ok_X10_in (d := d - 1) (by omega) _ _ _) rfl rfl (Nat.le_of_ble_eq_true rfl) (by omega) ?_
  refine r_iret dX10_isHand_9 rfl (by first | exact bz_X10_in .. | apply bz_X10_in) ?_
  exact ⟨by rw [f_X10_isHand], rfl⟩
theorem bz_X10_isHand (p1 : Int32) : narrow .boolean (.int (f_X10_isHand p1)) = .int (f_X10_isHand p1) := by
  unfold f_X10_isHand
  (repeat' split) <;> first | rfl | decide | apply bz_X10_in

def f_X10_isTongue (p1 : Int32) : Int32 := (f_X10_in (Int32.toInt64 p1) (0 : Int64) (5 : Int64))
set_option maxRecDepth 100000 in
set_option maxHeartbeats 1000000 in
theorem ok_X10_isTongue {g : GC} {d : Nat} {h : hH} (hd : 1 ≤ d) (p1 : Int32)  : AM g d 0 0 yX10_isTongue cX10_isTongue 1 (some FieldType.boolean) [.int p1] h (fun v h' => v = some (.int (f_X10_isTongue p1)) ∧ h' = h) := by
  refine AM.of2 (own := RX10) (nm := "isTongue") (L0 := [(0, .int p1)]) (by decide) rfl rfl (Nat.le_of_ble_eq_true rfl) rfl ?_
  refine r_iload_n dX10_isTongue_0 rfl ?_
  refine r_i2l dX10_isTongue_1 ?_
  refine r_lconst (v := (0 : Int64)) dX10_isTongue_2 (by decide) ?_
  refine r_ldc2 dX10_isTongue_3 kc_RX10_177 ?_
  refine r_callS0 dX10_isTongue_6 mf_X10_in ml_RX10_149 (ok_X10_in (d := d - 1) (by omega) _ _ _) rfl rfl (Nat.le_of_ble_eq_true rfl) (by omega) ?_
  refine r_iret dX10_isTongue_9 rfl (by first | exact bz_X10_in .. | apply bz_X10_in) ?_
  exact ⟨by rw [f_X10_isTongue], rfl⟩
theorem bz_X10_isTongue (p1 : Int32) : narrow .boolean (.int (f_X10_isTongue p1)) = .int (f_X10_isTongue p1) := by
  unfold f_X10_isTongue
  (repeat' split) <;> first | rfl | decide | apply bz_X10_in

def f_X10_isSheet (p1 : Int32) : Int32 := (f_X10_in (Int32.toInt64 p1) (0 : Int64) (3 : Int64))
set_option maxRecDepth 100000 in
set_option maxHeartbeats 1000000 in
theorem ok_X10_isSheet {g : GC} {d : Nat} {h : hH} (hd : 1 ≤ d) (p1 : Int32)  : AM g d 0 0 yX10_isSheet cX10_isSheet 1 (some FieldType.boolean) [.int p1] h (fun v h' => v = some (.int (f_X10_isSheet p1)) ∧ h' = h) := by
  refine AM.of2 (own := RX10) (nm := "isSheet") (L0 := [(0, .int p1)]) (by decide) rfl rfl (Nat.le_of_ble_eq_true rfl) rfl ?_
  refine r_iload_n dX10_isSheet_0 rfl ?_
  refine r_i2l dX10_isSheet_1 ?_
  refine r_lconst (v := (0 : Int64)) dX10_isSheet_2 (by decide) ?_
  refine r_ldc2 dX10_isSheet_3 kc_RX10_170 ?_
  refine r_callS0 dX10_isSheet_6 mf_X10_in ml_RX10_149 (ok_X10_in (d := d - 1) (by omega) _ _ _) rfl rfl (Nat.le_of_ble_eq_true rfl) (by omega) ?_
  refine r_iret dX10_isSheet_9 rfl (by first | exact bz_X10_in .. | apply bz_X10_in) ?_
  exact ⟨by rw [f_X10_isSheet], rfl⟩
theorem bz_X10_isSheet (p1 : Int32) : narrow .boolean (.int (f_X10_isSheet p1)) = .int (f_X10_isSheet p1) := by
  unfold f_X10_isSheet
  (repeat' split) <;> first | rfl | decide | apply bz_X10_in

def f_X10_isWine (σ : MSt) (p1 : Int32) : Int32 := (f_X10_in (Int32.toInt64 p1) (0 : Int64) (Int32.toInt64 ((σ.1 12) - (1 : Int32))))
set_option maxRecDepth 100000 in
set_option maxHeartbeats 1000000 in
theorem ok_X10_isWine {g : GC} {E : ME} {d : Nat} (hE : MEok E) (hd : 1 ≤ d) (σ : MSt) (p1 : Int32)  : MC g E d yX10_isWine cX10_isWine 2 (some FieldType.boolean) [.int p1] (fun v σ' => v = some (.int (f_X10_isWine σ p1)) ∧ σ' = σ) σ := by
  refine AM.of2 (own := RX10) (nm := "isWine") (L0 := [(0, .ref E.2.2), (1, .int p1)]) (by decide) rfl rfl (Nat.le_of_ble_eq_true rfl) rfl ?_
  refine r_iload_n dX10_isWine_0 rfl ?_
  refine r_i2l dX10_isWine_1 ?_
  refine r_lconst (v := (0 : Int64)) dX10_isWine_2 (by decide) ?_
  refine r_aload_n dX10_isWine_3 rfl ?_
  refine m_get dX10_isWine_4 fl_RX10_146 rfl ?_
  refine r_iconst (v := (1 : Int32)) dX10_isWine_7 (by decide) ?_
  refine r_isub dX10_isWine_8 ?_
  refine r_i2l dX10_isWine_9 ?_
  refine m_callS dX10_isWine_10 mf_X10_in ml_RX10_149 (ok_X10_in (d := d - 1) (by omega) _ _ _) rfl rfl (Nat.le_of_ble_eq_true rfl) (by omega) ?_
  refine r_iret dX10_isWine_13 rfl (by first | exact bz_X10_in .. | apply bz_X10_in) ?_
  exact ⟨_, rfl, by rw [f_X10_isWine], rfl⟩
theorem bz_X10_isWine (σ : MSt) (p1 : Int32) : narrow .boolean (.int (f_X10_isWine σ p1)) = .int (f_X10_isWine σ p1) := by
  unfold f_X10_isWine
  (repeat' split) <;> first | rfl | decide | apply bz_X10_in

def f_X10_isBottle (σ : MSt) (p1 : Int32) : Int32 := (f_X10_in (Int32.toInt64 p1) (0 : Int64) (Int32.toInt64 ((σ.1 20) - (1 : Int32))))
set_option maxRecDepth 100000 in
set_option maxHeartbeats 1000000 in
theorem ok_X10_isBottle {g : GC} {E : ME} {d : Nat} (hE : MEok E) (hd : 1 ≤ d) (σ : MSt) (p1 : Int32)  : MC g E d yX10_isBottle cX10_isBottle 2 (some FieldType.boolean) [.int p1] (fun v σ' => v = some (.int (f_X10_isBottle σ p1)) ∧ σ' = σ) σ := by
  refine AM.of2 (own := RX10) (nm := "isBottle") (L0 := [(0, .ref E.2.2), (1, .int p1)]) (by decide) rfl rfl (Nat.le_of_ble_eq_true rfl) rfl ?_
  refine r_iload_n dX10_isBottle_0 rfl ?_
  refine r_i2l dX10_isBottle_1 ?_
  refine r_lconst (v := (0 : Int64)) dX10_isBottle_2 (by decide) ?_
  refine r_aload_n dX10_isBottle_3 rfl ?_
  refine m_get dX10_isBottle_4 fl_RX10_174 rfl ?_
  refine r_iconst (v := (1 : Int32)) dX10_isBottle_7 (by decide) ?_
  refine r_isub dX10_isBottle_8 ?_
  refine r_i2l dX10_isBottle_9 ?_
  refine m_callS dX10_isBottle_10 mf_X10_in ml_RX10_149 (ok_X10_in (d := d - 1) (by omega) _ _ _) rfl rfl (Nat.le_of_ble_eq_true rfl) (by omega) ?_
  refine r_iret dX10_isBottle_13 rfl (by first | exact bz_X10_in .. | apply bz_X10_in) ?_
  exact ⟨_, rfl, by rw [f_X10_isBottle], rfl⟩
theorem bz_X10_isBottle (σ : MSt) (p1 : Int32) : narrow .boolean (.int (f_X10_isBottle σ p1)) = .int (f_X10_isBottle σ p1) := by
  unfold f_X10_isBottle
  (repeat' split) <;> first | rfl | decide | apply bz_X10_in

def f_X10_tasteOf (σ : MSt) (p1 : Int32) (p2 : Int32) : Int32 := (if p2 = 0 then ((σ.2.2 11 (Int32.toNatClampNeg p1)) / (10000 : Int32)) else (if p2 = (1 : Int32) then (((σ.2.2 11 (Int32.toNatClampNeg p1)) / (100 : Int32)) - ((σ.2.2 11 (Int32.toNatClampNeg p1)) / (100 : Int32)) / (100 : Int32) * (100 : Int32)) else ((σ.2.2 11 (Int32.toNatClampNeg p1)) - (σ.2.2 11 (Int32.toNatClampNeg p1)) / (100 : Int32) * (100 : Int32))))
set_option maxRecDepth 100000 in
set_option maxHeartbeats 1000000 in
theorem ok_X10_tasteOf {g : GC} {E : ME} {d : Nat} (hE : MEok E) (hd : 0 ≤ d) (σ : MSt) (p1 : Int32) (p2 : Int32) (h0 : vp_in p1 8) : MC g E d yX10_tasteOf cX10_tasteOf 3 (some FieldType.int) [.int p1, .int p2] (fun v σ' => v = some (.int (f_X10_tasteOf σ p1 p2)) ∧ σ' = σ) σ := by
  refine AM.of2 (own := RX10) (nm := "tasteOf") (L0 := [(0, .ref E.2.2), (1, .int p1), (2, .int p2)]) (by decide) rfl rfl (Nat.le_of_ble_eq_true rfl) rfl ?_
  refine r_iload_n dX10_tasteOf_0 rfl ?_
  refine r_if_ne (tgt := 17) dX10_tasteOf_1 (by decide) (fun c1 => ?_) (fun c1 => ?_)
  · refine r_iload_n dX10_tasteOf_17 rfl ?_
    refine r_iconst (v := (1 : Int32)) dX10_tasteOf_18 (by decide) ?_
    refine r_icmp_ne (tgt := 37) dX10_tasteOf_19 (by decide) (fun c2 => ?_) (fun c2 => ?_)
    · refine r_aload_n dX10_tasteOf_37 rfl ?_
      refine m_get dX10_tasteOf_38 fl_RX10_35 rfl ?_
      refine r_iload_n dX10_tasteOf_41 rfl ?_
      refine m_iald (k := 11) (N := 8) hE (by decide) rfl rfl dX10_tasteOf_42 (by with_reducible first | assumption) ?_
      refine r_bipush (v := (100 : Int32)) dX10_tasteOf_43 (by decide) ?_
      refine r_irem dX10_tasteOf_45 (by decide) ?_
      refine r_iret dX10_tasteOf_46 rfl rfl ?_
      exact ⟨_, rfl, by rw [f_X10_tasteOf, if_neg c1, if_neg c2], rfl⟩
    · refine r_aload_n dX10_tasteOf_22 rfl ?_
      refine m_get dX10_tasteOf_23 fl_RX10_35 rfl ?_
      refine r_iload_n dX10_tasteOf_26 rfl ?_
      refine m_iald (k := 11) (N := 8) hE (by decide) rfl rfl dX10_tasteOf_27 (by with_reducible first | assumption) ?_
      refine r_bipush (v := (100 : Int32)) dX10_tasteOf_28 (by decide) ?_
      refine r_idiv dX10_tasteOf_30 (by decide) ?_
      refine r_bipush (v := (100 : Int32)) dX10_tasteOf_31 (by decide) ?_
      refine r_irem dX10_tasteOf_33 (by decide) ?_
      refine r_goto (tgt := 46) dX10_tasteOf_34 (by decide) ?_
      refine r_iret dX10_tasteOf_46 rfl rfl ?_
      exact ⟨_, rfl, by rw [f_X10_tasteOf, if_neg c1, if_pos c2], rfl⟩
  · refine r_aload_n dX10_tasteOf_4 rfl ?_
    refine m_get dX10_tasteOf_5 fl_RX10_35 rfl ?_
    refine r_iload_n dX10_tasteOf_8 rfl ?_
    refine m_iald (k := 11) (N := 8) hE (by decide) rfl rfl dX10_tasteOf_9 (by with_reducible first | assumption) ?_
    refine r_sipush (v := (10000 : Int32)) dX10_tasteOf_10 (by decide) ?_
    refine r_idiv dX10_tasteOf_13 (by decide) ?_
    refine r_goto (tgt := 46) dX10_tasteOf_14 (by decide) ?_
    refine r_iret dX10_tasteOf_46 rfl rfl ?_
    exact ⟨_, rfl, by rw [f_X10_tasteOf, if_pos c1], rfl⟩

def f_X10_showsOf (σ : MSt) (p1 : Int32) (p2 : Int32) : Int32 := (if (σ.2.2 16 (Int32.toNatClampNeg p1)) = (1 : Int32) then (f_X10_partOf (σ.2.2 10 (Int32.toNatClampNeg (σ.2.2 17 (Int32.toNatClampNeg p1)))) p2) else if (σ.2.2 16 (Int32.toNatClampNeg p1)) = (2 : Int32) then (if p2 = 0 then (f_X10_partOf (σ.2.2 10 (Int32.toNatClampNeg (σ.2.2 17 (Int32.toNatClampNeg p1)))) p2) else (f_X10_partOf (σ.2.2 19 (Int32.toNatClampNeg p1)) p2)) else if (σ.2.2 16 (Int32.toNatClampNeg p1)) = (3 : Int32) then (if p2 = (2 : Int32) then (f_X10_partOf (σ.2.2 19 (Int32.toNatClampNeg p1)) p2) else (f_X10_partOf (σ.2.2 10 (Int32.toNatClampNeg (σ.2.2 17 (Int32.toNatClampNeg p1)))) p2)) else if (σ.2.2 16 (Int32.toNatClampNeg p1)) = (4 : Int32) then (if p2 = (2 : Int32) then (f_X10_partOf (σ.2.2 19 (Int32.toNatClampNeg p1)) p2) else (f_X10_partOf (σ.2.2 10 (Int32.toNatClampNeg (σ.2.2 17 (Int32.toNatClampNeg p1)))) p2)) else (f_X10_partOf (σ.2.2 19 (Int32.toNatClampNeg p1)) p2))
set_option maxRecDepth 100000 in
set_option maxHeartbeats 1000000 in
theorem ok_X10_showsOf {g : GC} {E : ME} {d : Nat} (hE : MEok E) (hd : 1 ≤ d) (σ : MSt) (p1 : Int32) (p2 : Int32) (h0 : vp_in p1 24) (h1 : vp_in (σ.2.2 17 (Int32.toNatClampNeg p1)) 8) : MC g E d yX10_showsOf cX10_showsOf 5 (some FieldType.int) [.int p1, .int p2] (fun v σ' => v = some (.int (f_X10_showsOf σ p1 p2)) ∧ σ' = σ) σ := by
  refine AM.of2 (own := RX10) (nm := "showsOf") (L0 := [(0, .ref E.2.2), (1, .int p1), (2, .int p2)]) (by decide) rfl rfl (Nat.le_of_ble_eq_true rfl) rfl ?_
  refine r_aload_n dX10_showsOf_0 rfl ?_
  refine m_get dX10_showsOf_1 fl_RX10_56 rfl ?_
  refine r_iload_n dX10_showsOf_4 rfl ?_
  refine m_iald (k := 19) (N := 24) hE (by decide) rfl rfl dX10_showsOf_5 (by with_reducible first | assumption) ?_
  refine r_iload_n dX10_showsOf_6 rfl ?_
  refine m_callS dX10_showsOf_7 mf_X10_partOf ml_RX10_179 (ok_X10_partOf (d := d - 1) (by omega) _ _) rfl rfl (Nat.le_of_ble_eq_true rfl) (by omega) ?_
  refine r_istore_n dX10_showsOf_10 (by decide) ?_
  refine r_aload_n dX10_showsOf_11 rfl ?_
  refine m_get dX10_showsOf_12 fl_RX10_32 rfl ?_
  refine r_aload_n dX10_showsOf_15 rfl ?_
  refine m_get dX10_showsOf_16 fl_RX10_50 rfl ?_
  refine r_iload_n dX10_showsOf_19 rfl ?_
  refine m_iald (k := 17) (N := 24) hE (by decide) rfl rfl dX10_showsOf_20 (by with_reducible first | assumption) ?_
  refine m_iald (k := 10) (N := 8) hE (by decide) rfl rfl dX10_showsOf_21 (by with_reducible first | assumption) ?_
  refine r_iload_n dX10_showsOf_22 rfl ?_
  refine m_callS dX10_showsOf_23 mf_X10_partOf ml_RX10_179 (ok_X10_partOf (d := d - 1) (by omega) _ _) rfl rfl (Nat.le_of_ble_eq_true rfl) (by omega) ?_
  refine r_istore dX10_showsOf_26 (by decide) ?_
  refine r_aload_n dX10_showsOf_28 rfl ?_
  refine m_get dX10_showsOf_29 fl_RX10_47 rfl ?_
  refine r_iload_n dX10_showsOf_32 rfl ?_
  refine m_iald (k := 16) (N := 24) hE (by decide) rfl rfl dX10_showsOf_33 (by with_reducible first | assumption) ?_
  by_cases c1 : (σ.2.2 16 (Int32.toNatClampNeg p1)) = (1 : Int32)
  · refine r_tabK (tgt := 64) dX10_showsOf_34 c1 (by decide) (by decide) rfl (by decide) ?_
    refine r_iload dX10_showsOf_64 rfl ?_
    refine r_iret dX10_showsOf_66 rfl rfl ?_
    exact ⟨_, rfl, by rw [f_X10_showsOf, if_pos c1], rfl⟩
  by_cases c2 : (σ.2.2 16 (Int32.toNatClampNeg p1)) = (2 : Int32)
  · refine r_tabK (tgt := 79) dX10_showsOf_34 c2 (by decide) (by decide) rfl (by decide) ?_
    refine r_iload_n dX10_showsOf_79 rfl ?_
    refine r_if_ne (tgt := 88) dX10_showsOf_80 (by decide) (fun c3 => ?_) (fun c3 => ?_)
    · refine r_iload_n dX10_showsOf_88 rfl ?_
      refine r_iret dX10_showsOf_89 rfl rfl ?_
      exact ⟨_, rfl, by rw [f_X10_showsOf, if_neg c1, if_pos c2, if_neg c3], rfl⟩
    · refine r_iload dX10_showsOf_83 rfl ?_
      refine r_goto (tgt := 89) dX10_showsOf_85 (by decide) ?_
      refine r_iret dX10_showsOf_89 rfl rfl ?_
      exact ⟨_, rfl, by rw [f_X10_showsOf, if_neg c1, if_pos c2, if_pos c3], rfl⟩
  by_cases c4 : (σ.2.2 16 (Int32.toNatClampNeg p1)) = (3 : Int32)
  · refine r_tabK (tgt := 67) dX10_showsOf_34 c4 (by decide) (by decide) rfl (by decide) ?_
    refine r_iload_n dX10_showsOf_67 rfl ?_
    refine r_iconst (v := (2 : Int32)) dX10_showsOf_68 (by decide) ?_
    refine r_icmp_ne (tgt := 76) dX10_showsOf_69 (by decide) (fun c5 => ?_) (fun c5 => ?_)
    · refine r_iload dX10_showsOf_76 rfl ?_
      refine r_iret dX10_showsOf_78 rfl rfl ?_
      exact ⟨_, rfl, by rw [f_X10_showsOf, if_neg c1, if_neg c2, if_pos c4, if_neg c5], rfl⟩
    · refine r_iload_n dX10_showsOf_72 rfl ?_
      refine r_goto (tgt := 78) dX10_showsOf_73 (by decide) ?_
      refine r_iret dX10_showsOf_78 rfl rfl ?_
      exact ⟨_, rfl, by rw [f_X10_showsOf, if_neg c1, if_neg c2, if_pos c4, if_pos c5], rfl⟩
  by_cases c6 : (σ.2.2 16 (Int32.toNatClampNeg p1)) = (4 : Int32)
  · refine r_tabK (tgt := 90) dX10_showsOf_34 c6 (by decide) (by decide) rfl (by decide) ?_
    refine r_iload_n dX10_showsOf_90 rfl ?_
    refine r_iconst (v := (2 : Int32)) dX10_showsOf_91 (by decide) ?_
    refine r_icmp_ne (tgt := 99) dX10_showsOf_92 (by decide) (fun c7 => ?_) (fun c7 => ?_)
    · refine r_iload dX10_showsOf_99 rfl ?_
      refine r_iret dX10_showsOf_101 rfl rfl ?_
      exact ⟨_, rfl, by rw [f_X10_showsOf, if_neg c1, if_neg c2, if_neg c4, if_pos c6, if_neg c7], rfl⟩
    · refine r_iload_n dX10_showsOf_95 rfl ?_
      refine r_goto (tgt := 101) dX10_showsOf_96 (by decide) ?_
      refine r_iret dX10_showsOf_101 rfl rfl ?_
      exact ⟨_, rfl, by rw [f_X10_showsOf, if_neg c1, if_neg c2, if_neg c4, if_pos c6, if_pos c7], rfl⟩
  refine r_tabOut (tgt := 102) dX10_showsOf_34 (by have e0 : ((σ.2.2 16 (Int32.toNatClampNeg p1))).toInt ≠ 1 := ne_toInt c1; have e1 : ((σ.2.2 16 (Int32.toNatClampNeg p1))).toInt ≠ 2 := ne_toInt c2; have e2 : ((σ.2.2 16 (Int32.toNatClampNeg p1))).toInt ≠ 3 := ne_toInt c4; have e3 : ((σ.2.2 16 (Int32.toNatClampNeg p1))).toInt ≠ 4 := ne_toInt c6; omega) (by decide) ?_
  refine r_iload_n dX10_showsOf_102 rfl ?_
  refine r_iret dX10_showsOf_103 rfl rfl ?_
  exact ⟨_, rfl, by rw [f_X10_showsOf, if_neg c1, if_neg c2, if_neg c4, if_neg c6], rfl⟩

def f_X10_tastesOf (σ : MSt) (p1 : Int32) (p2 : Int32) : Int32 := (if (σ.2.2 16 (Int32.toNatClampNeg p1)) = (1 : Int32) then (f_X10_tasteOf σ (σ.2.2 17 (Int32.toNatClampNeg p1)) p2) else if (σ.2.2 16 (Int32.toNatClampNeg p1)) = (2 : Int32) then (f_X10_tasteOf σ (σ.2.2 18 (Int32.toNatClampNeg p1)) p2) else if (σ.2.2 16 (Int32.toNatClampNeg p1)) = (3 : Int32) then (f_X10_tasteOf σ (σ.2.2 17 (Int32.toNatClampNeg p1)) p2) else if (σ.2.2 16 (Int32.toNatClampNeg p1)) = (4 : Int32) then (((f_X10_tasteOf σ (σ.2.2 18 (Int32.toNatClampNeg p1)) p2) + (f_X10_tasteOf σ (σ.2.2 17 (Int32.toNatClampNeg p1)) p2)) / (2 : Int32)) else if (σ.2.2 16 (Int32.toNatClampNeg p1)) = (5 : Int32) then (if (9 : Int32) ≤ (f_X10_tasteOf σ (σ.2.2 18 (Int32.toNatClampNeg p1)) p2) then ((f_X10_tasteOf σ (σ.2.2 18 (Int32.toNatClampNeg p1)) p2) - (9 : Int32)) else (0 : Int32)) else (f_X10_tasteOf σ (σ.2.2 18 (Int32.toNatClampNeg p1)) p2))
set_option maxRecDepth 100000 in
set_option maxHeartbeats 1000000 in
theorem ok_X10_tastesOf {g : GC} {E : ME} {d : Nat} (hE : MEok E) (hd : 1 ≤ d) (σ : MSt) (p1 : Int32) (p2 : Int32) (h0 : vp_in p1 24) (h1 : vp_in (σ.2.2 17 (Int32.toNatClampNeg p1)) 8) (h2 : vp_in (σ.2.2 18 (Int32.toNatClampNeg p1)) 8) : MC g E d yX10_tastesOf cX10_tastesOf 5 (some FieldType.int) [.int p1, .int p2] (fun v σ' => v = some (.int (f_X10_tastesOf σ p1 p2)) ∧ σ' = σ) σ := by
  refine AM.of2 (own := RX10) (nm := "tastesOf") (L0 := [(0, .ref E.2.2), (1, .int p1), (2, .int p2)]) (by decide) rfl rfl (Nat.le_of_ble_eq_true rfl) rfl ?_
  refine r_aload_n dX10_tastesOf_0 rfl ?_
  refine r_aload_n dX10_tastesOf_1 rfl ?_
  refine m_get dX10_tastesOf_2 fl_RX10_53 rfl ?_
  refine r_iload_n dX10_tastesOf_5 rfl ?_
  refine m_iald (k := 18) (N := 24) hE (by decide) rfl rfl dX10_tastesOf_6 (by with_reducible first | assumption) ?_
  refine r_iload_n dX10_tastesOf_7 rfl ?_
  refine m_callW dX10_tastesOf_8 mf_X10_tasteOf ml_RX10_183 (ok_X10_tasteOf (d := d - 1) hE (by omega) _ _ _ (by with_reducible first | assumption)) rfl rfl rfl (Nat.le_of_ble_eq_true rfl) (by omega) ?_
  refine r_istore_n dX10_tastesOf_11 (by decide) ?_
  refine r_aload_n dX10_tastesOf_12 rfl ?_
  refine r_aload_n dX10_tastesOf_13 rfl ?_
  refine m_get dX10_tastesOf_14 fl_RX10_50 rfl ?_
  refine r_iload_n dX10_tastesOf_17 rfl ?_
  refine m_iald (k := 17) (N := 24) hE (by decide) rfl rfl dX10_tastesOf_18 (by with_reducible first | assumption) ?_
  refine r_iload_n dX10_tastesOf_19 rfl ?_
  refine m_callW dX10_tastesOf_20 mf_X10_tasteOf ml_RX10_183 (ok_X10_tasteOf (d := d - 1) hE (by omega) _ _ _ (by with_reducible first | assumption)) rfl rfl rfl (Nat.le_of_ble_eq_true rfl) (by omega) ?_
  refine r_istore dX10_tastesOf_23 (by decide) ?_
  refine r_aload_n dX10_tastesOf_25 rfl ?_
  refine m_get dX10_tastesOf_26 fl_RX10_47 rfl ?_
  refine r_iload_n dX10_tastesOf_29 rfl ?_
  refine m_iald (k := 16) (N := 24) hE (by decide) rfl rfl dX10_tastesOf_30 (by with_reducible first | assumption) ?_
  by_cases c1 : (σ.2.2 16 (Int32.toNatClampNeg p1)) = (1 : Int32)
  · refine r_tabK (tgt := 64) dX10_tastesOf_31 c1 (by decide) (by decide) rfl (by decide) ?_
    refine r_iload dX10_tastesOf_64 rfl ?_
    refine r_iret dX10_tastesOf_66 rfl rfl ?_
    exact ⟨_, rfl, by rw [f_X10_tastesOf, if_pos c1], rfl⟩
  by_cases c2 : (σ.2.2 16 (Int32.toNatClampNeg p1)) = (2 : Int32)
  · refine r_tabK (tgt := 89) dX10_tastesOf_31 c2 (by decide) (by decide) rfl (by decide) ?_
    refine r_iload_n dX10_tastesOf_89 rfl ?_
    refine r_iret dX10_tastesOf_90 rfl rfl ?_
    exact ⟨_, rfl, by rw [f_X10_tastesOf, if_neg c1, if_pos c2], rfl⟩
  by_cases c3 : (σ.2.2 16 (Int32.toNatClampNeg p1)) = (3 : Int32)
  · refine r_tabK (tgt := 64) dX10_tastesOf_31 c3 (by decide) (by decide) rfl (by decide) ?_
    refine r_iload dX10_tastesOf_64 rfl ?_
    refine r_iret dX10_tastesOf_66 rfl rfl ?_
    exact ⟨_, rfl, by rw [f_X10_tastesOf, if_neg c1, if_neg c2, if_pos c3], rfl⟩
  by_cases c4 : (σ.2.2 16 (Int32.toNatClampNeg p1)) = (4 : Int32)
  · refine r_tabK (tgt := 67) dX10_tastesOf_31 c4 (by decide) (by decide) rfl (by decide) ?_
    refine r_iload_n dX10_tastesOf_67 rfl ?_
    refine r_iload dX10_tastesOf_68 rfl ?_
    refine r_iadd dX10_tastesOf_70 ?_
    refine r_iconst (v := (2 : Int32)) dX10_tastesOf_71 (by decide) ?_
    refine r_idiv dX10_tastesOf_72 (by decide) ?_
    refine r_iret dX10_tastesOf_73 rfl rfl ?_
    exact ⟨_, rfl, by rw [f_X10_tastesOf, if_neg c1, if_neg c2, if_neg c3, if_pos c4], rfl⟩
  by_cases c5 : (σ.2.2 16 (Int32.toNatClampNeg p1)) = (5 : Int32)
  · refine r_tabK (tgt := 74) dX10_tastesOf_31 c5 (by decide) (by decide) rfl (by decide) ?_
    refine r_iload_n dX10_tastesOf_74 rfl ?_
    refine r_bipush (v := (9 : Int32)) dX10_tastesOf_75 (by decide) ?_
    refine r_icmp_ge (tgt := 84) dX10_tastesOf_77 (by decide) (fun c6 => ?_) (fun c6 => ?_)
    · refine r_iload_n dX10_tastesOf_84 rfl ?_
      refine r_bipush (v := (9 : Int32)) dX10_tastesOf_85 (by decide) ?_
      refine r_isub dX10_tastesOf_87 ?_
      refine r_iret dX10_tastesOf_88 rfl rfl ?_
      exact ⟨_, rfl, by rw [f_X10_tastesOf, if_neg c1, if_neg c2, if_neg c3, if_neg c4, if_pos c5, if_pos c6], rfl⟩
    · refine r_iconst (v := (0 : Int32)) dX10_tastesOf_80 (by decide) ?_
      refine r_goto (tgt := 88) dX10_tastesOf_81 (by decide) ?_
      refine r_iret dX10_tastesOf_88 rfl rfl ?_
      exact ⟨_, rfl, by rw [f_X10_tastesOf, if_neg c1, if_neg c2, if_neg c3, if_neg c4, if_pos c5, if_neg c6], rfl⟩
  refine r_tabOut (tgt := 89) dX10_tastesOf_31 (by have e0 : ((σ.2.2 16 (Int32.toNatClampNeg p1))).toInt ≠ 1 := ne_toInt c1; have e1 : ((σ.2.2 16 (Int32.toNatClampNeg p1))).toInt ≠ 2 := ne_toInt c2; have e2 : ((σ.2.2 16 (Int32.toNatClampNeg p1))).toInt ≠ 3 := ne_toInt c3; have e3 : ((σ.2.2 16 (Int32.toNatClampNeg p1))).toInt ≠ 4 := ne_toInt c4; have e4 : ((σ.2.2 16 (Int32.toNatClampNeg p1))).toInt ≠ 5 := ne_toInt c5; omega) (by decide) ?_
  refine r_iload_n dX10_tastesOf_89 rfl ?_
  refine r_iret dX10_tastesOf_90 rfl rfl ?_
  exact ⟨_, rfl, by rw [f_X10_tastesOf, if_neg c1, if_neg c2, if_neg c3, if_neg c4, if_neg c5], rfl⟩
