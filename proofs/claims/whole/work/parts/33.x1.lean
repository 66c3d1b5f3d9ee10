def f_J6_bitCount_0f7a4 (p1 : Int32) : Int32 := ((((((((p1 - (((Int32.toUInt32 p1 >>> (Int32.toUInt32 (1 : Int32) &&& Int32.toUInt32 31)).toInt32) &&& (1431655765 : Int32))) &&& (858993459 : Int32)) + (((Int32.toUInt32 (p1 - (((Int32.toUInt32 p1 >>> (Int32.toUInt32 (1 : Int32) &&& Int32.toUInt32 31)).toInt32) &&& (1431655765 : Int32))) >>> (Int32.toUInt32 (2 : Int32) &&& Int32.toUInt32 31)).toInt32) &&& (858993459 : Int32))) + ((Int32.toUInt32 (((p1 - (((Int32.toUInt32 p1 >>> (Int32.toUInt32 (1 : Int32) &&& Int32.toUInt32 31)).toInt32) &&& (1431655765 : Int32))) &&& (858993459 : Int32)) + (((Int32.toUInt32 (p1 - (((Int32.toUInt32 p1 >>> (Int32.toUInt32 (1 : Int32) &&& Int32.toUInt32 31)).toInt32) &&& (1431655765 : Int32))) >>> (Int32.toUInt32 (2 : Int32) &&& Int32.toUInt32 31)).toInt32) &&& (858993459 : Int32))) >>> (Int32.toUInt32 (4 : Int32) &&& Int32.toUInt32 31)).toInt32)) &&& (252645135 : Int32)) + ((Int32.toUInt32 (((((p1 - (((Int32.toUInt32 p1 >>> (Int32.toUInt32 (1 : Int32) &&& Int32.toUInt32 31)).toInt32) &&& (1431655765 : Int32))) &&& (858993459 : Int32)) + (((Int32.toUInt32 (p1 - (((Int32.toUInt32 p1 >>> (Int32.toUInt32 (1 : Int32) &&& Int32.toUInt32 31)).toInt32) &&& (1431655765 : Int32))) >>> (Int32.toUInt32 (2 : Int32) &&& Int32.toUInt32 31)).toInt32) &&& (858993459 : Int32))) + ((Int32.toUInt32 (((p1 - (((Int32.toUInt32 p1 >>> (Int32.toUInt32 (1 : Int32) &&& Int32.toUInt32 31)).toInt32) &&& (1431655765 : Int32))) &&& (858993459 : Int32)) + (((Int32.toUInt32 (p1 - (((Int32.toUInt32 p1 >>> (Int32.toUInt32 (1 : Int32) &&& Int32.toUInt32 31)).toInt32) &&& (1431655765 : Int32))) >>> (Int32.toUInt32 (2 : Int32) &&& Int32.toUInt32 31)).toInt32) &&& (858993459 : Int32))) >>> (Int32.toUInt32 (4 : Int32) &&& Int32.toUInt32 31)).toInt32)) &&& (252645135 : Int32)) >>> (Int32.toUInt32 (8 : Int32) &&& Int32.toUInt32 31)).toInt32)) + ((Int32.toUInt32 ((((((p1 - (((Int32.toUInt32 p1 >>> (Int32.toUInt32 (1 : Int32) &&& Int32.toUInt32 31)).toInt32) &&& (1431655765 : Int32))) &&& (858993459 : Int32)) + (((Int32.toUInt32 (p1 - (((Int32.toUInt32 p1 >>> (Int32.toUInt32 (1 : Int32) &&& Int32.toUInt32 31)).toInt32) &&& (1431655765 : Int32))) >>> (Int32.toUInt32 (2 : Int32) &&& Int32.toUInt32 31)).toInt32) &&& (858993459 : Int32))) + ((Int32.toUInt32 (((p1 - (((Int32.toUInt32 p1 >>> (Int32.toUInt32 (1 : Int32) &&& Int32.toUInt32 31)).toInt32) &&& (1431655765 : Int32))) &&& (858993459 : Int32)) + (((Int32.toUInt32 (p1 - (((Int32.toUInt32 p1 >>> (Int32.toUInt32 (1 : Int32) &&& Int32.toUInt32 31)).toInt32) &&& (1431655765 : Int32))) >>> (Int32.toUInt32 (2 : Int32) &&& Int32.toUInt32 31)).toInt32) &&& (858993459 : Int32))) >>> (Int32.toUInt32 (4 : Int32) &&& Int32.toUInt32 31)).toInt32)) &&& (252645135 : Int32)) + ((Int32.toUInt32 (((((p1 - (((Int32.toUInt32 p1 >>> (Int32.toUInt32 (1 : Int32) &&& Int32.toUInt32 31)).toInt32) &&& (1431655765 : Int32))) &&& (858993459 : Int32)) + (((Int32.toUInt32 (p1 - (((Int32.toUInt32 p1 >>> (Int32.toUInt32 (1 : Int32) &&& Int32.toUInt32 31)).toInt32) &&& (1431655765 : Int32))) >>> (Int32.toUInt32 (2 : Int32) &&& Int32.toUInt32 31)).toInt32) &&& (858993459 : Int32))) + ((Int32.toUInt32 (((p1 - (((Int32.toUInt32 p1 >>> (Int32.toUInt32 (1 : Int32) &&& Int32.toUInt32 31)).toInt32) &&& (1431655765 : Int32))) &&& (858993459 : Int32)) + (((Int32.toUInt32 (p1 - (((Int32.toUInt32 p1 >>> (Int32.toUInt32 (1 : Int32) &&& Int32.toUInt32 31)).toInt32) &&& (1431655765 : Int32))) >>> (Int32.toUInt32 (2 : Int32) &&& Int32.toUInt32 31)).toInt32) &&& (858993459 : Int32))) >>> (Int32.toUInt32 (4 : Int32) &&& Int32.toUInt32 31)).toInt32)) &&& (252645135 : Int32)) >>> (Int32.toUInt32 (8 : Int32) &&& Int32.toUInt32 31)).toInt32)) >>> (Int32.toUInt32 (16 : Int32) &&& Int32.toUInt32 31)).toInt32)) &&& (63 : Int32))
set_option maxRecDepth 100000 in
set_option maxHeartbeats 1000000 in
theorem ok_J6_bitCount_0f7a4 {g : GC} {d : Nat} {h : hH} (hd : 0 ≤ d) (p1 : Int32)  : AM g d 0 0 yJ6_bitCount_0f7a4 cJ6_bitCount_0f7a4 1 (some FieldType.int) [.int p1] h (fun v h' => v = some (.int (f_J6_bitCount_0f7a4 p1)) ∧ h' = h) := by
  refine AM.of2 (own := RJ6) (nm := "bitCount") (L0 := [(0, .int p1)]) (by decide) rfl rfl (Nat.le_of_ble_eq_true rfl) rfl ?_
  refine r_iload_n dJ6_bitCount_0f7a4_0 rfl ?_
  refine r_iload_n dJ6_bitCount_0f7a4_1 rfl ?_
  refine r_iconst (v := (1 : Int32)) dJ6_bitCount_0f7a4_2 (by decide) ?_
  refine r_iushr dJ6_bitCount_0f7a4_3 ?_
  refine r_ldcw dJ6_bitCount_0f7a4_4 kw_RJ6_265 ?_
  refine r_iand dJ6_bitCount_0f7a4_7 ?_
  refine r_isub dJ6_bitCount_0f7a4_8 ?_
  refine r_istore_n dJ6_bitCount_0f7a4_9 (by decide) ?_
  refine r_iload_n dJ6_bitCount_0f7a4_10 rfl ?_
  refine r_ldcw dJ6_bitCount_0f7a4_11 kw_RJ6_266 ?_
  refine r_iand dJ6_bitCount_0f7a4_14 ?_
  refine r_iload_n dJ6_bitCount_0f7a4_15 rfl ?_
  refine r_iconst (v := (2 : Int32)) dJ6_bitCount_0f7a4_16 (by decide) ?_
  refine r_iushr dJ6_bitCount_0f7a4_17 ?_
  refine r_ldcw dJ6_bitCount_0f7a4_18 kw_RJ6_266 ?_
  refine r_iand dJ6_bitCount_0f7a4_21 ?_
  refine r_iadd dJ6_bitCount_0f7a4_22 ?_
  refine r_istore_n dJ6_bitCount_0f7a4_23 (by decide) ?_
  refine r_iload_n dJ6_bitCount_0f7a4_24 rfl ?_
  refine r_iload_n dJ6_bitCount_0f7a4_25 rfl ?_
  refine r_iconst (v := (4 : Int32)) dJ6_bitCount_0f7a4_26 (by decide) ?_
  refine r_iushr dJ6_bitCount_0f7a4_27 ?_
  refine r_iadd dJ6_bitCount_0f7a4_28 ?_
  refine r_ldcw dJ6_bitCount_0f7a4_29 kw_RJ6_267 ?_
  refine r_iand dJ6_bitCount_0f7a4_32 ?_
  refine r_istore_n dJ6_bitCount_0f7a4_33 (by decide) ?_
  refine r_iload_n dJ6_bitCount_0f7a4_34 rfl ?_
  refine r_iload_n dJ6_bitCount_0f7a4_35 rfl ?_
  refine r_bipush (v := (8 : Int32)) dJ6_bitCount_0f7a4_36 (by decide) ?_
  refine r_iushr dJ6_bitCount_0f7a4_38 ?_
  refine r_iadd dJ6_bitCount_0f7a4_39 ?_
  refine r_istore_n dJ6_bitCount_0f7a4_40 (by decide) ?_
  refine r_iload_n dJ6_bitCount_0f7a4_41 rfl ?_
  refine r_iload_n dJ6_bitCount_0f7a4_42 rfl ?_
  refine r_bipush (v := (16 : Int32)) dJ6_bitCount_0f7a4_43 (by decide) ?_
  refine r_iushr dJ6_bitCount_0f7a4_45 ?_
  refine r_iadd dJ6_bitCount_0f7a4_46 ?_
  refine r_istore_n dJ6_bitCount_0f7a4_47 (by decide) ?_
  refine r_iload_n dJ6_bitCount_0f7a4_48 rfl ?_
  refine r_bipush (v := (63 : Int32)) dJ6_bitCount_0f7a4_49 (by decide) ?_
  refine r_iand dJ6_bitCount_0f7a4_51 ?_
  refine r_iret dJ6_bitCount_0f7a4_52 rfl rfl ?_
  exact ⟨by rw [f_J6_bitCount_0f7a4], rfl⟩

def f_X9_isUpTo (p1 : Int32) (p2 : Int32) : Int32 := (if p1 < 0 then (0 : Int32) else (if p2 < p1 then (0 : Int32) else (1 : Int32)))
set_option maxRecDepth 100000 in
set_option maxHeartbeats 1000000 in
theorem ok_X9_isUpTo {g : GC} {d : Nat} {h : hH} (hd : 0 ≤ d) (p1 : Int32) (p2 : Int32)  : AM g d 0 0 yX9_isUpTo cX9_isUpTo 2 (some FieldType.boolean) [.int p1, .int p2] h (fun v h' => v = some (.int (f_X9_isUpTo p1 p2)) ∧ h' = h) := by
  refine AM.of2 (own := RX9) (nm := "isUpTo") (L0 := [(0, .int p1), (1, .int p2)]) (by decide) rfl rfl (Nat.le_of_ble_eq_true rfl) rfl ?_
  refine r_iload_n dX9_isUpTo_0 rfl ?_
  refine r_if_lt (tgt := 13) dX9_isUpTo_1 (by decide) (fun c1 => ?_) (fun c1 => ?_)
  · refine r_iconst (v := (0 : Int32)) dX9_isUpTo_13 (by decide) ?_
    refine r_iret dX9_isUpTo_14 rfl (by decide) ?_
    exact ⟨by rw [f_X9_isUpTo, if_pos c1], rfl⟩
  · refine r_iload_n dX9_isUpTo_4 rfl ?_
    refine r_iload_n dX9_isUpTo_5 rfl ?_
    refine r_icmp_gt (tgt := 13) dX9_isUpTo_6 (by decide) (fun c2 => ?_) (fun c2 => ?_)
    · refine r_iconst (v := (0 : Int32)) dX9_isUpTo_13 (by decide) ?_
      refine r_iret dX9_isUpTo_14 rfl (by decide) ?_
      exact ⟨by rw [f_X9_isUpTo, if_neg c1, if_pos c2], rfl⟩
    · refine r_iconst (v := (1 : Int32)) dX9_isUpTo_9 (by decide) ?_
      refine r_goto (tgt := 14) dX9_isUpTo_10 (by decide) ?_
      refine r_iret dX9_isUpTo_14 rfl (by decide) ?_
      exact ⟨by rw [f_X9_isUpTo, if_neg c1, if_neg c2], rfl⟩
theorem bz_X9_isUpTo (p1 : Int32) (p2 : Int32) : narrow .boolean (.int (f_X9_isUpTo p1 p2)) = .int (f_X9_isUpTo p1 p2) := by
  unfold f_X9_isUpTo
  (repeat' split) <;> first | rfl | decide | skip

def f_X9_isBelow (p1 : Int32) (p2 : Int32) : Int32 := (if p1 < 0 then (0 : Int32) else (if p2 ≤ p1 then (0 : Int32) else (1 : Int32)))
set_option maxRecDepth 100000 in
set_option maxHeartbeats 1000000 in
theorem ok_X9_isBelow {g : GC} {d : Nat} {h : hH} (hd : 0 ≤ d) (p1 : Int32) (p2 : Int32)  : AM g d 0 0 yX9_isBelow cX9_isBelow 2 (some FieldType.boolean) [.int p1, .int p2] h (fun v h' => v = some (.int (f_X9_isBelow p1 p2)) ∧ h' = h) := by
  refine AM.of2 (own := RX9) (nm := "isBelow") (L0 := [(0, .int p1), (1, .int p2)]) (by decide) rfl rfl (Nat.le_of_ble_eq_true rfl) rfl ?_
  refine r_iload_n dX9_isBelow_0 rfl ?_
  refine r_if_lt (tgt := 13) dX9_isBelow_1 (by decide) (fun c1 => ?_) (fun c1 => ?_)
  · refine r_iconst (v := (0 : Int32)) dX9_isBelow_13 (by decide) ?_
    refine r_iret dX9_isBelow_14 rfl (by decide) ?_
    exact ⟨by rw [f_X9_isBelow, if_pos c1], rfl⟩
  · refine r_iload_n dX9_isBelow_4 rfl ?_
    refine r_iload_n dX9_isBelow_5 rfl ?_
    refine r_icmp_ge (tgt := 13) dX9_isBelow_6 (by decide) (fun c2 => ?_) (fun c2 => ?_)
    · refine r_iconst (v := (0 : Int32)) dX9_isBelow_13 (by decide) ?_
      refine r_iret dX9_isBelow_14 rfl (by decide) ?_
      exact ⟨by rw [f_X9_isBelow, if_neg c1, if_pos c2], rfl⟩
    · refine r_iconst (v := (1 : Int32)) dX9_isBelow_9 (by decide) ?_
      refine r_goto (tgt := 14) dX9_isBelow_10 (by decide) ?_
      refine r_iret dX9_isBelow_14 rfl (by decide) ?_
      exact ⟨by rw [f_X9_isBelow, if_neg c1, if_neg c2], rfl⟩
theorem bz_X9_isBelow (p1 : Int32) (p2 : Int32) : narrow .boolean (.int (f_X9_isBelow p1 p2)) = .int (f_X9_isBelow p1 p2) := by
  unfold f_X9_isBelow
  (repeat' split) <;> first | rfl | decide | skip

def f_X9_areParts (p1 : Int32) : Int32 := (if (f_X9_isUpTo p1 (333 : Int32)) = 0 then (0 : Int32) else (if (4 : Int32) ≤ ((p1 / (10 : Int32)) - (p1 / (10 : Int32)) / (10 : Int32) * (10 : Int32)) then (0 : Int32) else (if (4 : Int32) ≤ (p1 - p1 / (10 : Int32) * (10 : Int32)) then (0 : Int32) else (1 : Int32))))
set_option maxRecDepth 100000 in
set_option maxHeartbeats 1000000 in
theorem ok_X9_areParts {g : GC} {d : Nat} {h : hH} (hd : 1 ≤ d) (p1 : Int32)  : AM g d 0 0 yX9_areParts cX9_areParts 1 (some FieldType.boolean) [.int p1] h (fun v h' => v = some (.int (f_X9_areParts p1)) ∧ h' = h) := by
  refine AM.of2 (own := RX9) (nm := "areParts") (L0 := [(0, .int p1)]) (by decide) rfl rfl (Nat.le_of_ble_eq_true rfl) rfl ?_
  refine r_iload_n dX9_areParts_0 rfl ?_
  refine r_sipush (v := (333 : Int32)) dX9_areParts_1 (by decide) ?_
  refine r_callS0 dX9_areParts_4 mf_X9_isUpTo ml_RX9_106 (ok_X9_isUpTo (d := d - 1) (by omega) _ _) rfl rfl (Nat.le_of_ble_eq_true rfl) (by omega) ?_
  refine r_if_eq (tgt := 33) dX9_areParts_7 (by decide) (fun c1 => ?_) (fun c1 => ?_)
  · refine r_iconst (v := (0 : Int32)) dX9_areParts_33 (by decide) ?_
    refine r_iret dX9_areParts_34 rfl (by decide) ?_
    exact ⟨by rw [f_X9_areParts, if_pos c1], rfl⟩
  · refine r_iload_n dX9_areParts_10 rfl ?_
    refine r_bipush (v := (10 : Int32)) dX9_areParts_11 (by decide) ?_
    refine r_idiv dX9_areParts_13 (by decide) ?_
    refine r_bipush (v := (10 : Int32)) dX9_areParts_14 (by decide) ?_
    refine r_irem dX9_areParts_16 (by decide) ?_
    refine r_iconst (v := (4 : Int32)) dX9_areParts_17 (by decide) ?_
    refine r_icmp_ge (tgt := 33) dX9_areParts_18 (by decide) (fun c2 => ?_) (fun c2 => ?_)
    · refine r_iconst (v := (0 : Int32)) dX9_areParts_33 (by decide) ?_
      refine r_iret dX9_areParts_34 rfl (by decide) ?_
      exact ⟨by rw [f_X9_areParts, if_neg c1, if_pos c2], rfl⟩
    · refine r_iload_n dX9_areParts_21 rfl ?_
      refine r_bipush (v := (10 : Int32)) dX9_areParts_22 (by decide) ?_
      refine r_irem dX9_areParts_24 (by decide) ?_
      refine r_iconst (v := (4 : Int32)) dX9_areParts_25 (by decide) ?_
      refine r_icmp_ge (tgt := 33) dX9_areParts_26 (by decide) (fun c3 => ?_) (fun c3 => ?_)
      · refine r_iconst (v := (0 : Int32)) dX9_areParts_33 (by decide) ?_
        refine r_iret dX9_areParts_34 rfl (by decide) ?_
        exact ⟨by rw [f_X9_areParts, if_neg c1, if_neg c2, if_pos c3], rfl⟩
      · refine r_iconst (v := (1 : Int32)) dX9_areParts_29 (by decide) ?_
        refine r_goto (tgt := 34) dX9_areParts_30 (by decide) ?_
        refine r_iret dX9_areParts_34 rfl (by decide) ?_
        exact ⟨by rw [f_X9_areParts, if_neg c1, if_neg c2, if_neg c3], rfl⟩
theorem bz_X9_areParts (p1 : Int32) : narrow .boolean (.int (f_X9_areParts p1)) = .int (f_X9_areParts p1) := by
  unfold f_X9_areParts
  (repeat' split) <;> first | rfl | decide | skip

def f_X9_partOf (p1 : Int32) (p2 : Int32) : Int32 := (if p2 = 0 then (p1 / (100 : Int32)) else (if p2 = (1 : Int32) then ((p1 / (10 : Int32)) - (p1 / (10 : Int32)) / (10 : Int32) * (10 : Int32)) else (p1 - p1 / (10 : Int32) * (10 : Int32))))
set_option maxRecDepth 100000 in
set_option maxHeartbeats 1000000 in
theorem ok_X9_partOf {g : GC} {d : Nat} {h : hH} (hd : 0 ≤ d) (p1 : Int32) (p2 : Int32)  : AM g d 0 0 yX9_partOf cX9_partOf 2 (some FieldType.int) [.int p1, .int p2] h (fun v h' => v = some (.int (f_X9_partOf p1 p2)) ∧ h' = h) := by
  refine AM.of2 (own := RX9) (nm := "partOf") (L0 := [(0, .int p1), (1, .int p2)]) (by decide) rfl rfl (Nat.le_of_ble_eq_true rfl) rfl ?_
  refine r_iload_n dX9_partOf_0 rfl ?_
  refine r_if_ne (tgt := 11) dX9_partOf_1 (by decide) (fun c1 => ?_) (fun c1 => ?_)
  · refine r_iload_n dX9_partOf_11 rfl ?_
    refine r_iconst (v := (1 : Int32)) dX9_partOf_12 (by decide) ?_
    refine r_icmp_ne (tgt := 26) dX9_partOf_13 (by decide) (fun c2 => ?_) (fun c2 => ?_)
    · refine r_iload_n dX9_partOf_26 rfl ?_
      refine r_bipush (v := (10 : Int32)) dX9_partOf_27 (by decide) ?_
      refine r_irem dX9_partOf_29 (by decide) ?_
      refine r_iret dX9_partOf_30 rfl rfl ?_
      exact ⟨by rw [f_X9_partOf, if_neg c1, if_neg c2], rfl⟩
    · refine r_iload_n dX9_partOf_16 rfl ?_
      refine r_bipush (v := (10 : Int32)) dX9_partOf_17 (by decide) ?_
      refine r_idiv dX9_partOf_19 (by decide) ?_
      refine r_bipush (v := (10 : Int32)) dX9_partOf_20 (by decide) ?_
      refine r_irem dX9_partOf_22 (by decide) ?_
      refine r_goto (tgt := 30) dX9_partOf_23 (by decide) ?_
      refine r_iret dX9_partOf_30 rfl rfl ?_
      exact ⟨by rw [f_X9_partOf, if_neg c1, if_pos c2], rfl⟩
  · refine r_iload_n dX9_partOf_4 rfl ?_
    refine r_bipush (v := (100 : Int32)) dX9_partOf_5 (by decide) ?_
    refine r_idiv dX9_partOf_7 (by decide) ?_
    refine r_goto (tgt := 30) dX9_partOf_8 (by decide) ?_
    refine r_iret dX9_partOf_30 rfl rfl ?_
    exact ⟨by rw [f_X9_partOf, if_pos c1], rfl⟩

def f_X0_place (p1 : Int32) (p2 : Int32) : Int32 := (if p1 < 0 then (-1 : Int32) else (if (3 : Int32) ≤ p1 then (-1 : Int32) else (if p2 < 0 then (-1 : Int32) else (if (4 : Int32) ≤ p2 then (-1 : Int32) else ((p1 * (4 : Int32)) + p2)))))
set_option maxRecDepth 100000 in
set_option maxHeartbeats 1000000 in
theorem ok_X0_place {g : GC} {d : Nat} {h : hH} (hd : 0 ≤ d) (p1 : Int32) (p2 : Int32)  : AM g d 0 0 yX0_place cX0_place 2 (some FieldType.int) [.int p1, .int p2] h (fun v h' => v = some (.int (f_X0_place p1 p2)) ∧ h' = h) := by
  refine AM.of2 (own := RX0) (nm := "place") (L0 := [(0, .int p1), (1, .int p2)]) (by decide) rfl rfl (Nat.le_of_ble_eq_true rfl) rfl ?_
  refine r_iload_n dX0_place_0 rfl ?_
  refine r_if_lt (tgt := 26) dX0_place_1 (by decide) (fun c1 => ?_) (fun c1 => ?_)
  · refine r_iconst (v := (-1 : Int32)) dX0_place_26 (by decide) ?_
    refine r_iret dX0_place_27 rfl rfl ?_
    exact ⟨by rw [f_X0_place, if_pos c1], rfl⟩
  · refine r_iload_n dX0_place_4 rfl ?_
    refine r_iconst (v := (3 : Int32)) dX0_place_5 (by decide) ?_
    refine r_icmp_ge (tgt := 26) dX0_place_6 (by decide) (fun c2 => ?_) (fun c2 => ?_)
    · refine r_iconst (v := (-1 : Int32)) dX0_place_26 (by decide) ?_
      refine r_iret dX0_place_27 rfl rfl ?_
      exact ⟨by rw [f_X0_place, if_neg c1, if_pos c2], rfl⟩
    · refine r_iload_n dX0_place_9 rfl ?_
      refine r_if_lt (tgt := 26) dX0_place_10 (by decide) (fun c3 => ?_) (fun c3 => ?_)
      · refine r_iconst (v := (-1 : Int32)) dX0_place_26 (by decide) ?_
        refine r_iret dX0_place_27 rfl rfl ?_
        exact ⟨by rw [f_X0_place, if_neg c1, if_neg c2, if_pos c3], rfl⟩
      · refine r_iload_n dX0_place_13 rfl ?_
        refine r_iconst (v := (4 : Int32)) dX0_place_14 (by decide) ?_
        refine r_icmp_ge (tgt := 26) dX0_place_15 (by decide) (fun c4 => ?_) (fun c4 => ?_)
        · refine r_iconst (v := (-1 : Int32)) dX0_place_26 (by decide) ?_
          refine r_iret dX0_place_27 rfl rfl ?_
          exact ⟨by rw [f_X0_place, if_neg c1, if_neg c2, if_neg c3, if_pos c4], rfl⟩
        · refine r_iload_n dX0_place_18 rfl ?_
          refine r_iconst (v := (4 : Int32)) dX0_place_19 (by decide) ?_
          refine r_imul dX0_place_20 ?_
          refine r_iload_n dX0_place_21 rfl ?_
          refine r_iadd dX0_place_22 ?_
          refine r_goto (tgt := 27) dX0_place_23 (by decide) ?_
          refine r_iret dX0_place_27 rfl rfl ?_
          exact ⟨by rw [f_X0_place, if_neg c1, if_neg c2, if_neg c3, if_neg c4], rfl⟩

def f_X5_truth (p1 : Int32) : Int32 := (if p1 = 0 then (0 : Int32) else (1 : Int32))
set_option maxRecDepth 100000 in
set_option maxHeartbeats 1000000 in
theorem ok_X5_truth {g : GC} {d : Nat} {h : hH} (hd : 0 ≤ d) (p1 : Int32)  : AM g d 0 0 yX5_truth cX5_truth 1 (some FieldType.int) [.int p1] h (fun v h' => v = some (.int (f_X5_truth p1)) ∧ h' = h) := by
  refine AM.of2 (own := RX5) (nm := "truth") (L0 := [(0, .int p1)]) (by decide) rfl rfl (Nat.le_of_ble_eq_true rfl) rfl ?_
  refine r_iload_n dX5_truth_0 rfl ?_
  refine r_if_eq (tgt := 8) dX5_truth_1 (by decide) (fun c1 => ?_) (fun c1 => ?_)
  · refine r_iconst (v := (0 : Int32)) dX5_truth_8 (by decide) ?_
    refine r_iret dX5_truth_9 rfl rfl ?_
    exact ⟨by rw [f_X5_truth, if_pos c1], rfl⟩
  · refine r_iconst (v := (1 : Int32)) dX5_truth_4 (by decide) ?_
    refine r_goto (tgt := 9) dX5_truth_5 (by decide) ?_
    refine r_iret dX5_truth_9 rfl rfl ?_
    exact ⟨by rw [f_X5_truth, if_neg c1], rfl⟩

def f_X5_joined (p1 : Int32) (p2 : Int32) (p3 : Int32) : Int32 := (if p1 = (9 : Int32) then (if p2 = 0 then (if p3 = 0 then (f_X5_truth (0 : Int32)) else (f_X5_truth (1 : Int32))) else (f_X5_truth (1 : Int32))) else if p1 = (10 : Int32) then (if p2 = 0 then (f_X5_truth (0 : Int32)) else (if p3 = 0 then (f_X5_truth (0 : Int32)) else (f_X5_truth (1 : Int32)))) else if p1 = (43 : Int32) then (p2 + p3) else if p1 = (45 : Int32) then (p2 - p3) else if p1 = (60 : Int32) then (if p3 ≤ p2 then (f_X5_truth (0 : Int32)) else (f_X5_truth (1 : Int32))) else if p1 = (61 : Int32) then (if p2 = p3 then (f_X5_truth (1 : Int32)) else (f_X5_truth (0 : Int32))) else (p2 * p3))
set_option maxRecDepth 100000 in
set_option maxHeartbeats 1000000 in
theorem ok_X5_joined {g : GC} {d : Nat} {h : hH} (hd : 1 ≤ d) (p1 : Int32) (p2 : Int32) (p3 : Int32)  : AM g d 0 0 yX5_joined cX5_joined 3 (some FieldType.int) [.int p1, .int p2, .int p3] h (fun v h' => v = some (.int (f_X5_joined p1 p2 p3)) ∧ h' = h) := by
  refine AM.of2 (own := RX5) (nm := "joined") (L0 := [(0, .int p1), (1, .int p2), (2, .int p3)]) (by decide) rfl rfl (Nat.le_of_ble_eq_true rfl) rfl ?_
  refine r_iload_n dX5_joined_0 rfl ?_
  by_cases c1 : p1 = (9 : Int32)
  · refine r_lookK (tgt := 60) (off := (59 : Int)) dX5_joined_1 c1 (by decide) (by decide) (by decide) ?_
    refine r_iload_n dX5_joined_60 rfl ?_
    refine r_if_ne (tgt := 68) dX5_joined_61 (by decide) (fun c2 => ?_) (fun c2 => ?_)
    · refine r_iconst (v := (1 : Int32)) dX5_joined_68 (by decide) ?_
      refine r_goto (tgt := 73) dX5_joined_69 (by decide) ?_
      refine r_callS0 dX5_joined_73 mf_X5_truth ml_RX5_24 (ok_X5_truth (d := d - 1) (by omega) _) rfl rfl (Nat.le_of_ble_eq_true rfl) (by omega) ?_
      refine r_iret dX5_joined_76 rfl rfl ?_
      exact ⟨by rw [f_X5_joined, if_pos c1, if_neg c2], rfl⟩
    · refine r_iload_n dX5_joined_64 rfl ?_
      refine r_if_eq (tgt := 72) dX5_joined_65 (by decide) (fun c3 => ?_) (fun c3 => ?_)
      · refine r_iconst (v := (0 : Int32)) dX5_joined_72 (by decide) ?_
        refine r_callS0 dX5_joined_73 mf_X5_truth ml_RX5_24 (ok_X5_truth (d := d - 1) (by omega) _) rfl rfl (Nat.le_of_ble_eq_true rfl) (by omega) ?_
        refine r_iret dX5_joined_76 rfl rfl ?_
        exact ⟨by rw [f_X5_joined, if_pos c1, if_pos c2, if_pos c3], rfl⟩
      · refine r_iconst (v := (1 : Int32)) dX5_joined_68 (by decide) ?_
        refine r_goto (tgt := 73) dX5_joined_69 (by decide) ?_
        refine r_callS0 dX5_joined_73 mf_X5_truth ml_RX5_24 (ok_X5_truth (d := d - 1) (by omega) _) rfl rfl (Nat.le_of_ble_eq_true rfl) (by omega) ?_
        refine r_iret dX5_joined_76 rfl rfl ?_
        exact ⟨by rw [f_X5_joined, if_pos c1, if_pos c2, if_neg c3], rfl⟩
  by_cases c4 : p1 = (10 : Int32)
  · refine r_lookK (tgt := 77) (off := (76 : Int)) dX5_joined_1 c4 (by decide) (by decide) (by decide) ?_
    refine r_iload_n dX5_joined_77 rfl ?_
    refine r_if_eq (tgt := 89) dX5_joined_78 (by decide) (fun c5 => ?_) (fun c5 => ?_)
    · refine r_iconst (v := (0 : Int32)) dX5_joined_89 (by decide) ?_
      refine r_callS0 dX5_joined_90 mf_X5_truth ml_RX5_24 (ok_X5_truth (d := d - 1) (by omega) _) rfl rfl (Nat.le_of_ble_eq_true rfl) (by omega) ?_
      refine r_iret dX5_joined_93 rfl rfl ?_
      exact ⟨by rw [f_X5_joined, if_neg c1, if_pos c4, if_pos c5], rfl⟩
    · refine r_iload_n dX5_joined_81 rfl ?_
      refine r_if_eq (tgt := 89) dX5_joined_82 (by decide) (fun c6 => ?_) (fun c6 => ?_)
      · refine r_iconst (v := (0 : Int32)) dX5_joined_89 (by decide) ?_
        refine r_callS0 dX5_joined_90 mf_X5_truth ml_RX5_24 (ok_X5_truth (d := d - 1) (by omega) _) rfl rfl (Nat.le_of_ble_eq_true rfl) (by omega) ?_
        refine r_iret dX5_joined_93 rfl rfl ?_
        exact ⟨by rw [f_X5_joined, if_neg c1, if_pos c4, if_neg c5, if_pos c6], rfl⟩
      · refine r_iconst (v := (1 : Int32)) dX5_joined_85 (by decide) ?_
        refine r_goto (tgt := 90) dX5_joined_86 (by decide) ?_
        refine r_callS0 dX5_joined_90 mf_X5_truth ml_RX5_24 (ok_X5_truth (d := d - 1) (by omega) _) rfl rfl (Nat.le_of_ble_eq_true rfl) (by omega) ?_
        refine r_iret dX5_joined_93 rfl rfl ?_
        exact ⟨by rw [f_X5_joined, if_neg c1, if_pos c4, if_neg c5, if_neg c6], rfl⟩
  by_cases c7 : p1 = (43 : Int32)
  · refine r_lookK (tgt := 122) (off := (121 : Int)) dX5_joined_1 c7 (by decide) (by decide) (by decide) ?_
    refine r_iload_n dX5_joined_122 rfl ?_
    refine r_iload_n dX5_joined_123 rfl ?_
    refine r_iadd dX5_joined_124 ?_
    refine r_iret dX5_joined_125 rfl rfl ?_
    exact ⟨by rw [f_X5_joined, if_neg c1, if_neg c4, if_pos c7], rfl⟩
  by_cases c8 : p1 = (45 : Int32)
  · refine r_lookK (tgt := 126) (off := (125 : Int)) dX5_joined_1 c8 (by decide) (by decide) (by decide) ?_
    refine r_iload_n dX5_joined_126 rfl ?_
    refine r_iload_n dX5_joined_127 rfl ?_
    refine r_isub dX5_joined_128 ?_
    refine r_iret dX5_joined_129 rfl rfl ?_
    exact ⟨by rw [f_X5_joined, if_neg c1, if_neg c4, if_neg c7, if_pos c8], rfl⟩
  by_cases c9 : p1 = (60 : Int32)
  · refine r_lookK (tgt := 94) (off := (93 : Int)) dX5_joined_1 c9 (by decide) (by decide) (by decide) ?_
    refine r_iload_n dX5_joined_94 rfl ?_
    refine r_iload_n dX5_joined_95 rfl ?_
    refine r_icmp_ge (tgt := 103) dX5_joined_96 (by decide) (fun c10 => ?_) (fun c10 => ?_)
    · refine r_iconst (v := (0 : Int32)) dX5_joined_103 (by decide) ?_
      refine r_callS0 dX5_joined_104 mf_X5_truth ml_RX5_24 (ok_X5_truth (d := d - 1) (by omega) _) rfl rfl (Nat.le_of_ble_eq_true rfl) (by omega) ?_
      refine r_iret dX5_joined_107 rfl rfl ?_
      exact ⟨by rw [f_X5_joined, if_neg c1, if_neg c4, if_neg c7, if_neg c8, if_pos c9, if_pos c10], rfl⟩
    · refine r_iconst (v := (1 : Int32)) dX5_joined_99 (by decide) ?_
      refine r_goto (tgt := 104) dX5_joined_100 (by decide) ?_
      refine r_callS0 dX5_joined_104 mf_X5_truth ml_RX5_24 (ok_X5_truth (d := d - 1) (by omega) _) rfl rfl (Nat.le_of_ble_eq_true rfl) (by omega) ?_
      refine r_iret dX5_joined_107 rfl rfl ?_
      exact ⟨by rw [f_X5_joined, if_neg c1, if_neg c4, if_neg c7, if_neg c8, if_pos c9, if_neg c10], rfl⟩
  by_cases c11 : p1 = (61 : Int32)
  · refine r_lookK (tgt := 108) (off := (107 : Int)) dX5_joined_1 c11 (by decide) (by decide) (by decide) ?_
    refine r_iload_n dX5_joined_108 rfl ?_
    refine r_iload_n dX5_joined_109 rfl ?_
    refine r_icmp_ne (tgt := 117) dX5_joined_110 (by decide) (fun c12 => ?_) (fun c12 => ?_)
    · refine r_iconst (v := (0 : Int32)) dX5_joined_117 (by decide) ?_
      refine r_callS0 dX5_joined_118 mf_X5_truth ml_RX5_24 (ok_X5_truth (d := d - 1) (by omega) _) rfl rfl (Nat.le_of_ble_eq_true rfl) (by omega) ?_
      refine r_iret dX5_joined_121 rfl rfl ?_
      exact ⟨by rw [f_X5_joined, if_neg c1, if_neg c4, if_neg c7, if_neg c8, if_neg c9, if_pos c11, if_neg c12], rfl⟩
    · refine r_iconst (v := (1 : Int32)) dX5_joined_113 (by decide) ?_
      refine r_goto (tgt := 118) dX5_joined_114 (by decide) ?_
      refine r_callS0 dX5_joined_118 mf_X5_truth ml_RX5_24 (ok_X5_truth (d := d - 1) (by omega) _) rfl rfl (Nat.le_of_ble_eq_true rfl) (by omega) ?_
      refine r_iret dX5_joined_121 rfl rfl ?_
      exact ⟨by rw [f_X5_joined, if_neg c1, if_neg c4, if_neg c7, if_neg c8, if_neg c9, if_pos c11, if_pos c12], rfl⟩
  refine r_look (tgt := 130) (off := (129 : Int)) dX5_joined_1 (by decide) (by have e0 : (p1).toInt ≠ 9 := ne_toInt c1; have e1 : (p1).toInt ≠ 10 := ne_toInt c4; have e2 : (p1).toInt ≠ 43 := ne_toInt c7; have e3 : (p1).toInt ≠ 45 := ne_toInt c8; have e4 : (p1).toInt ≠ 60 := ne_toInt c9; have e5 : (p1).toInt ≠ 61 := ne_toInt c11; simp [Op.lookupswitch.offset, e0, Ne.symm e0, e1, Ne.symm e1, e2, Ne.symm e2, e3, Ne.symm e3, e4, Ne.symm e4, e5, Ne.symm e5]) (by decide) ?_
  refine r_iload_n dX5_joined_130 rfl ?_
  refine r_iload_n dX5_joined_131 rfl ?_
  refine r_imul dX5_joined_132 ?_
  refine r_iret dX5_joined_133 rfl rfl ?_
  exact ⟨by rw [f_X5_joined, if_neg c1, if_neg c4, if_neg c7, if_neg c8, if_neg c9, if_neg c11], rfl⟩

def f_X4_sortOf (p1 : Int32) : Int32 := (if p1 = (32 : Int32) then (32 : Int32) else (if p1 = (10 : Int32) then (32 : Int32) else (if p1 < (97 : Int32) then (if p1 < (48 : Int32) then (-1 : Int32) else (if (57 : Int32) < p1 then (-1 : Int32) else (48 : Int32))) else (if (122 : Int32) < p1 then (if p1 < (48 : Int32) then (-1 : Int32) else (if (57 : Int32) < p1 then (-1 : Int32) else (48 : Int32))) else (97 : Int32)))))
set_option maxRecDepth 100000 in
set_option maxHeartbeats 1000000 in
theorem ok_X4_sortOf {g : GC} {d : Nat} {h : hH} (hd : 0 ≤ d) (p1 : Int32)  : AM g d 0 0 yX4_sortOf cX4_sortOf 1 (some FieldType.int) [.int p1] h (fun v h' => v = some (.int (f_X4_sortOf p1)) ∧ h' = h) := by
  refine AM.of2 (own := RX4) (nm := "sortOf") (L0 := [(0, .int p1)]) (by decide) rfl rfl (Nat.le_of_ble_eq_true rfl) rfl ?_
  refine r_iload_n dX4_sortOf_0 rfl ?_
  refine r_bipush (v := (32 : Int32)) dX4_sortOf_1 (by decide) ?_
  refine r_icmp_eq (tgt := 12) dX4_sortOf_3 (by decide) (fun c1 => ?_) (fun c1 => ?_)
  · refine r_bipush (v := (32 : Int32)) dX4_sortOf_12 (by decide) ?_
    refine r_iret dX4_sortOf_14 rfl rfl ?_
    exact ⟨by rw [f_X4_sortOf, if_pos c1], rfl⟩
  · refine r_iload_n dX4_sortOf_6 rfl ?_
    refine r_bipush (v := (10 : Int32)) dX4_sortOf_7 (by decide) ?_
    refine r_icmp_ne (tgt := 15) dX4_sortOf_9 (by decide) (fun c2 => ?_) (fun c2 => ?_)
    · refine r_iload_n dX4_sortOf_15 rfl ?_
      refine r_bipush (v := (97 : Int32)) dX4_sortOf_16 (by decide) ?_
      refine r_icmp_lt (tgt := 32) dX4_sortOf_18 (by decide) (fun c3 => ?_) (fun c3 => ?_)
      · refine r_iload_n dX4_sortOf_32 rfl ?_
        refine r_bipush (v := (48 : Int32)) dX4_sortOf_33 (by decide) ?_
        refine r_icmp_lt (tgt := 49) dX4_sortOf_35 (by decide) (fun c4 => ?_) (fun c4 => ?_)
        · refine r_iconst (v := (-1 : Int32)) dX4_sortOf_49 (by decide) ?_
          refine r_iret dX4_sortOf_50 rfl rfl ?_
          exact ⟨by rw [f_X4_sortOf, if_neg c1, if_neg c2, if_pos c3, if_pos c4], rfl⟩
        · refine r_iload_n dX4_sortOf_38 rfl ?_
          refine r_bipush (v := (57 : Int32)) dX4_sortOf_39 (by decide) ?_
          refine r_icmp_gt (tgt := 49) dX4_sortOf_41 (by decide) (fun c5 => ?_) (fun c5 => ?_)
          · refine r_iconst (v := (-1 : Int32)) dX4_sortOf_49 (by decide) ?_
            refine r_iret dX4_sortOf_50 rfl rfl ?_
            exact ⟨by rw [f_X4_sortOf, if_neg c1, if_neg c2, if_pos c3, if_neg c4, if_pos c5], rfl⟩
          · refine r_bipush (v := (48 : Int32)) dX4_sortOf_44 (by decide) ?_
            refine r_goto (tgt := 50) dX4_sortOf_46 (by decide) ?_
            refine r_iret dX4_sortOf_50 rfl rfl ?_
            exact ⟨by rw [f_X4_sortOf, if_neg c1, if_neg c2, if_pos c3, if_neg c4, if_neg c5], rfl⟩
      · refine r_iload_n dX4_sortOf_21 rfl ?_
        refine r_bipush (v := (122 : Int32)) dX4_sortOf_22 (by decide) ?_
        refine r_icmp_gt (tgt := 32) dX4_sortOf_24 (by decide) (fun c6 => ?_) (fun c6 => ?_)
        · refine r_iload_n dX4_sortOf_32 rfl ?_
          refine r_bipush (v := (48 : Int32)) dX4_sortOf_33 (by decide) ?_
          refine r_icmp_lt (tgt := 49) dX4_sortOf_35 (by decide) (fun c7 => ?_) (fun c7 => ?_)
          · refine r_iconst (v := (-1 : Int32)) dX4_sortOf_49 (by decide) ?_
            refine r_iret dX4_sortOf_50 rfl rfl ?_
            exact ⟨by rw [f_X4_sortOf, if_neg c1, if_neg c2, if_neg c3, if_pos c6, if_pos c7], rfl⟩
          · refine r_iload_n dX4_sortOf_38 rfl ?_
            refine r_bipush (v := (57 : Int32)) dX4_sortOf_39 (by decide) ?_
            refine r_icmp_gt (tgt := 49) dX4_sortOf_41 (by decide) (fun c8 => ?_) (fun c8 => ?_)
            · refine r_iconst (v := (-1 : Int32)) dX4_sortOf_49 (by decide) ?_
              refine r_iret dX4_sortOf_50 rfl rfl ?_
              exact ⟨by rw [f_X4_sortOf, if_neg c1, if_neg c2, if_neg c3, if_pos c6, if_neg c7, if_pos c8], rfl⟩
            · refine r_bipush (v := (48 : Int32)) dX4_sortOf_44 (by decide) ?_
              refine r_goto (tgt := 50) dX4_sortOf_46 (by decide) ?_
              refine r_iret dX4_sortOf_50 rfl rfl ?_
              exact ⟨by rw [f_X4_sortOf, if_neg c1, if_neg c2, if_neg c3, if_pos c6, if_neg c7, if_neg c8], rfl⟩
        · refine r_bipush (v := (97 : Int32)) dX4_sortOf_27 (by decide) ?_
          refine r_goto (tgt := 50) dX4_sortOf_29 (by decide) ?_
          refine r_iret dX4_sortOf_50 rfl rfl ?_
          exact ⟨by rw [f_X4_sortOf, if_neg c1, if_neg c2, if_neg c3, if_neg c6], rfl⟩
    · refine r_bipush (v := (32 : Int32)) dX4_sortOf_12 (by decide) ?_
      refine r_iret dX4_sortOf_14 rfl rfl ?_
      exact ⟨by rw [f_X4_sortOf, if_neg c1, if_pos c2], rfl⟩

theorem f_upTo (v m : Int32) : f_X9_isUpTo v m = if 0 ≤ v ∧ v ≤ m then 1 else 0 := by
  unfold f_X9_isUpTo
  have h1 : (0 : Int32) ≤ v ↔ ¬ v < 0 := Int32.not_lt.symm
  have h2 : v ≤ m ↔ ¬ m < v := Int32.not_lt.symm
  simp only [h1, h2]
  (repeat' split) <;> simp_all
theorem f_below (v m : Int32) : f_X9_isBelow v m = if 0 ≤ v ∧ v < m then 1 else 0 := by
  unfold f_X9_isBelow
  have h1 : (0 : Int32) ≤ v ↔ ¬ v < 0 := Int32.not_lt.symm
  have h2 : v < m ↔ ¬ m ≤ v := Int32.not_le.symm
  simp only [h1, h2]
  (repeat' split) <;> simp_all
theorem upTo_n {x m : Int32} {M : Nat} (e : m = nI M) (hM : M < 1000000) (c : ¬ f_X9_isUpTo x m = 0) : ∃ k : Nat, k ≤ M ∧ x = nI k := by
  subst e
  rw [f_upTo] at c
  by_cases q : (0 : Int32) ≤ x ∧ x ≤ nI M
  · exact nI_of_rg hM q.1 q.2
  · rw [if_neg q] at c; exact absurd rfl c
theorem upTo_k {x m : Int32} {M : Nat} (e : m = nI M) (hM : M < 1000000) (c : ¬ f_X9_isUpTo x m = 0) : vp_in x (M + 1) := by
  obtain ⟨k, hk, rfl⟩ := upTo_n e hM c
  exact vp_in_nI (by omega) (by omega)
theorem below_n {x m : Int32} {M : Nat} (e : m = nI M) (hM : M < 1000000) (c : ¬ f_X9_isBelow x m = 0) : ∃ k : Nat, k < M ∧ x = nI k := by
  subst e
  rw [f_below] at c
  by_cases q : (0 : Int32) ≤ x ∧ x < nI M
  · obtain ⟨k, hk, rfl⟩ := nI_of_rg hM q.1 (Int32.le_of_lt q.2)
    refine ⟨k, ?_, rfl⟩
    rcases Nat.lt_or_ge k M with z | z
    · exact z
    · exact absurd q.2 (Int32.not_lt.mpr (nI_le z (by omega)))
  · rw [if_neg q] at c; exact absurd rfl c
theorem below_k {x m : Int32} {M : Nat} (e : m = nI M) (hM : M < 1000000) (c : ¬ f_X9_isBelow x m = 0) : vp_in x M := by
  obtain ⟨k, hk, rfl⟩ := below_n e hM c
  exact vp_in_nI (by omega) (by omega)
theorem below_t {x m : Int32} {M : Nat} (e : m = nI M) (hM : M < 1000000) (c : ¬ f_X9_isBelow x m = 0) : x.toNatClampNeg < M := by
  obtain ⟨k, hk, rfl⟩ := below_n e hM c
  rw [nI_clamp (by omega)]
  exact hk
theorem place_in {a b : Int32} (c : ¬ f_X0_place a b = -1) : vp_in (f_X0_place a b) 12 := by
  unfold f_X0_place at c ⊢
  by_cases c1 : a < 0
  · simp [c1] at c
  · by_cases c2 : (3 : Int32) ≤ a
    · simp [c1, c2] at c
    · by_cases c3 : b < 0
      · simp [c1, c2, c3] at c
      · by_cases c4 : (4 : Int32) ≤ b
        · simp [c1, c2, c3, c4] at c
        · rw [if_neg c1, if_neg c2, if_neg c3, if_neg c4]
          obtain ⟨i, hi, rfl⟩ := nI_of c1
          obtain ⟨j, hj, rfl⟩ := nI_of c3
          have h1 : i < 3 := by
            rcases Nat.lt_or_ge i 3 with q | q
            · exact q
            · exact absurd (nI_le (a := 3) q hi) c2
          have h2 : j < 4 := by
            rcases Nat.lt_or_ge j 4 with q | q
            · exact q
            · exact absurd (nI_le (a := 4) q hj) c4
          rw [Int32.mul_comm, show (4 : Int32) * nI i = nI (4 * i) from pk_mul 4 i, nI_add]
          exact vp_in_nI (by omega) (by decide)

def f_X9_weightOf (p1 : Int32) : Int32 := (if (f_X9_isUpTo p1 (5 : Int32)) = 0 then (0 : Int32) else (tabV 1 (Int32.toNatClampNeg p1)))
set_option maxRecDepth 100000 in
set_option maxHeartbeats 1000000 in
theorem ok_X9_weightOf {g : GC} {d : Nat} {h : hH} (hX : GX g) (hd : 1 ≤ d) (p1 : Int32)  : AM g d 0 0 yX9_weightOf cX9_weightOf 1 (some FieldType.int) [.int p1] h (fun v h' => v = some (.int (f_X9_weightOf p1)) ∧ h' = h) := by
  refine AM.of2 (own := RX9) (nm := "weightOf") (L0 := [(0, .int p1)]) (by decide) rfl rfl (Nat.le_of_ble_eq_true rfl) rfl ?_
  refine r_iload_n dX9_weightOf_0 rfl ?_
  refine r_iconst (v := (5 : Int32)) dX9_weightOf_1 (by decide) ?_
  refine r_callS0 dX9_weightOf_2 mf_X9_isUpTo ml_RX9_106 (ok_X9_isUpTo (d := d - 1) (by omega) _ _) rfl rfl (Nat.le_of_ble_eq_true rfl) (by omega) ?_
  refine r_if_eq (tgt := 16) dX9_weightOf_5 (by decide) (fun c1 => ?_) (fun c1 => ?_)
  · refine r_iconst (v := (0 : Int32)) dX9_weightOf_16 (by decide) ?_
    refine r_iret dX9_weightOf_17 rfl rfl ?_
    exact ⟨by rw [f_X9_weightOf, if_pos c1], rfl⟩
  · obtain ⟨t2, t2z, t2t⟩ := hX.tab 1 (by decide)
    refine r_gets dX9_weightOf_8 t2z sl_RX9_366 ?_
    refine r_iload_n dX9_weightOf_11 rfl ?_
    refine r_ti (v := .int (tabV 1 (Int32.toNatClampNeg p1))) dX9_weightOf_12 t2t (by exact upTo_k (m := 5) (M := 5) rfl (by decide) (by with_reducible assumption)) rfl ?_
    refine r_goto (tgt := 17) dX9_weightOf_13 (by decide) ?_
    refine r_iret dX9_weightOf_17 rfl rfl ?_
    exact ⟨by rw [f_X9_weightOf, if_neg c1], rfl⟩

def f_X9_isOfKind_L4 : Nat → Int32 → Int32 → Int32 → Int32 → Int32
  | 0, _, _, _, _ => 0
  | n + 1, l0, l1, l2, l3 => (if (5 : Int32) < l3 then (if l2 = l1 then (1 : Int32) else (0 : Int32)) else (if (f_X9_isUpTo l2 (5 : Int32)) = 0 then (if l2 = l1 then (1 : Int32) else (0 : Int32)) else (if l2 = l1 then (if l2 = l1 then (1 : Int32) else (0 : Int32)) else (f_X9_isOfKind_L4 n  l0 l1 (tabV 0 (Int32.toNatClampNeg l2)) (l3 + (1 : Int32))))))
set_option maxRecDepth 100000 in
set_option maxHeartbeats 1000000 in
theorem lp_X9_isOfKind_4 {g : GC} {d : Nat} {h : hH} {K : Option Value → hH → Prop} (hX : GX g) (hd : 1 ≤ d) : ∀ (fuel : Nat) (l0 : Int32) (l1 : Int32) (l2 : Int32) (l3 : Int32), Ct l3 6 → 7 - l3.toNatClampNeg < fuel → K (some (.int (f_X9_isOfKind_L4 fuel l0 l1 l2 l3))) h → AW g RX9 cX9_isOfKind 4 (some FieldType.boolean) "isOfKind" d 0 0 K 4 [(0, .int l0), (1, .int l1), (2, .int l2), (3, .int l3)] [] h := by
  intro fuel
  induction fuel with
  | zero => intro l0 l1 l2 l3 i0 hm hK; exact absurd hm (Nat.not_lt_zero _)
  | succ n ih =>
    intro l0 l1 l2 l3 i0 hm hK
    refine r_iload_n dX9_isOfKind_4 rfl ?_
    refine r_iconst (v := (5 : Int32)) dX9_isOfKind_5 (by decide) ?_
    refine r_icmp_gt (tgt := 34) dX9_isOfKind_6 (by decide) (fun c1 => ?_) (fun c1 => ?_)
    · refine r_iload_n dX9_isOfKind_34 rfl ?_
      refine r_iload_n dX9_isOfKind_35 rfl ?_
      refine r_icmp_ne (tgt := 43) dX9_isOfKind_36 (by decide) (fun c2 => ?_) (fun c2 => ?_)
      · refine r_iconst (v := (0 : Int32)) dX9_isOfKind_43 (by decide) ?_
        refine r_iret dX9_isOfKind_44 rfl (by decide) ?_
        exact (by rw [f_X9_isOfKind_L4, if_pos c1, if_neg c2] at hK; exact hK)
      · refine r_iconst (v := (1 : Int32)) dX9_isOfKind_39 (by decide) ?_
        refine r_goto (tgt := 44) dX9_isOfKind_40 (by decide) ?_
        refine r_iret dX9_isOfKind_44 rfl (by decide) ?_
        exact (by rw [f_X9_isOfKind_L4, if_pos c1, if_pos c2] at hK; exact hK)
    · refine r_iload_n dX9_isOfKind_9 rfl ?_
      refine r_iconst (v := (5 : Int32)) dX9_isOfKind_10 (by decide) ?_
      refine r_callS0 dX9_isOfKind_11 mf_X9_isUpTo ml_RX9_106 (ok_X9_isUpTo (d := d - 1) (by omega) _ _) rfl rfl (Nat.le_of_ble_eq_true rfl) (by omega) ?_
      refine r_if_eq (tgt := 34) dX9_isOfKind_14 (by decide) (fun c3 => ?_) (fun c3 => ?_)
      · refine r_iload_n dX9_isOfKind_34 rfl ?_
        refine r_iload_n dX9_isOfKind_35 rfl ?_
        refine r_icmp_ne (tgt := 43) dX9_isOfKind_36 (by decide) (fun c4 => ?_) (fun c4 => ?_)
        · refine r_iconst (v := (0 : Int32)) dX9_isOfKind_43 (by decide) ?_
          refine r_iret dX9_isOfKind_44 rfl (by decide) ?_
          exact (by rw [f_X9_isOfKind_L4, if_neg c1, if_pos c3, if_neg c4] at hK; exact hK)
        · refine r_iconst (v := (1 : Int32)) dX9_isOfKind_39 (by decide) ?_
          refine r_goto (tgt := 44) dX9_isOfKind_40 (by decide) ?_
          refine r_iret dX9_isOfKind_44 rfl (by decide) ?_
          exact (by rw [f_X9_isOfKind_L4, if_neg c1, if_pos c3, if_pos c4] at hK; exact hK)
      · refine r_iload_n dX9_isOfKind_17 rfl ?_
        refine r_iload_n dX9_isOfKind_18 rfl ?_
        refine r_icmp_eq (tgt := 34) dX9_isOfKind_19 (by decide) (fun c5 => ?_) (fun c5 => ?_)
        · refine r_iload_n dX9_isOfKind_34 rfl ?_
          refine r_iload_n dX9_isOfKind_35 rfl ?_
          refine r_icmp_ne (tgt := 43) dX9_isOfKind_36 (by decide) (fun c6 => ?_) (fun c6 => ?_)
          · refine r_iconst (v := (0 : Int32)) dX9_isOfKind_43 (by decide) ?_
            refine r_iret dX9_isOfKind_44 rfl (by decide) ?_
            exact (by rw [f_X9_isOfKind_L4, if_neg c1, if_neg c3, if_pos c5, if_neg c6] at hK; exact hK)
          · refine r_iconst (v := (1 : Int32)) dX9_isOfKind_39 (by decide) ?_
            refine r_goto (tgt := 44) dX9_isOfKind_40 (by decide) ?_
            refine r_iret dX9_isOfKind_44 rfl (by decide) ?_
            exact (by rw [f_X9_isOfKind_L4, if_neg c1, if_neg c3, if_pos c5, if_pos c6] at hK; exact hK)
        · obtain ⟨t7, t7z, t7t⟩ := hX.tab 0 (by decide)
          refine r_gets dX9_isOfKind_22 t7z sl_RX9_369 ?_
          refine r_iload_n dX9_isOfKind_25 rfl ?_
          refine r_ti (v := .int (tabV 0 (Int32.toNatClampNeg l2))) dX9_isOfKind_26 t7t (by exact upTo_k (m := 5) (M := 5) rfl (by decide) (by with_reducible assumption)) rfl ?_
          refine r_istore_n dX9_isOfKind_27 (by decide) ?_
          refine r_iinc2 (w := (1 : Int32)) dX9_isOfKind_28 rfl (by decide) (by decide) ?_
          refine r_goto (tgt := 4) dX9_isOfKind_31 (by decide) ?_
          refine r_loc (L' := [(0, .int l0), (1, .int l1), (2, .int (tabV 0 (Int32.toNatClampNeg l2))), (3, .int (l3 + (1 : Int32)))]) [2, 3, 1, 0] rfl ?_
          exact ih  l0 l1 (tabV 0 (Int32.toNatClampNeg l2)) (l3 + (1 : Int32)) (by exact (Ct.upL (B := 5) (by decide) (b := 5) rfl rfl i0 (by with_reducible assumption)).2.1) (by have u := (Ct.upL (B := 5) (by decide) (b := 5) rfl rfl i0 (by with_reducible assumption)).2.2; omega) (by rw [f_X9_isOfKind_L4, if_neg c1, if_neg c3, if_neg c5] at hK; exact hK)
def f_X9_isOfKind (p1 : Int32) (p2 : Int32) : Int32 := (f_X9_isOfKind_L4 (8)  p1 p2 p1 (0 : Int32))
set_option maxRecDepth 100000 in
set_option maxHeartbeats 1000000 in
theorem ok_X9_isOfKind {g : GC} {d : Nat} {h : hH} (hX : GX g) (hd : 1 ≤ d) (p1 : Int32) (p2 : Int32)  : AM g d 0 0 yX9_isOfKind cX9_isOfKind 4 (some FieldType.boolean) [.int p1, .int p2] h (fun v h' => v = some (.int (f_X9_isOfKind p1 p2)) ∧ h' = h) := by
  refine AM.of2 (own := RX9) (nm := "isOfKind") (L0 := [(0, .int p1), (1, .int p2)]) (by decide) rfl rfl (Nat.le_of_ble_eq_true rfl) rfl ?_
  refine r_iload_n dX9_isOfKind_0 rfl ?_
  refine r_istore_n dX9_isOfKind_1 (by decide) ?_
  refine r_iconst (v := (0 : Int32)) dX9_isOfKind_2 (by decide) ?_
  refine r_istore_n dX9_isOfKind_3 (by decide) ?_
  refine r_loc (L' := [(0, .int p1), (1, .int p2), (2, .int p1), (3, .int (0 : Int32))]) [2, 3, 1, 0] rfl ?_
  exact lp_X9_isOfKind_4 hX (by omega) (8)  p1 p2 p1 (0 : Int32) (by exact Ct.zero _) (by omega) ⟨by rw [f_X9_isOfKind], rfl⟩
theorem bzl_X9_isOfKind_4 : ∀ (n : Nat) (l0 : Int32) (l1 : Int32) (l2 : Int32) (l3 : Int32), narrow .boolean (.int (f_X9_isOfKind_L4 n l0 l1 l2 l3)) = .int (f_X9_isOfKind_L4 n l0 l1 l2 l3) := by
  intro n
  induction n with
  | zero => intros; unfold f_X9_isOfKind_L4; rfl
  | succ n ih =>
    intros
    unfold f_X9_isOfKind_L4
    (repeat' split) <;> first | rfl | decide | apply ih
theorem bz_X9_isOfKind (p1 : Int32) (p2 : Int32) : narrow .boolean (.int (f_X9_isOfKind p1 p2)) = .int (f_X9_isOfKind p1 p2) := by
  unfold f_X9_isOfKind
  (repeat' split) <;> first | rfl | decide | apply bzl_X9_isOfKind_4 | skip

def f_X9_commonDivisor_L7 : Nat → Int32 → Int32 → Int32 → Int32 → Int32 → Int32
  | 0, _, _, _, _, _ => 0
  | n + 1, l0, l1, l2, l3, l4 => (if (100 : Int32) ≤ l4 then l2 else (if l3 = 0 then l2 else (f_X9_commonDivisor_L7 n  l0 l1 l3 (l2 - l2 / l3 * l3) (l4 + (1 : Int32)))))
set_option maxRecDepth 100000 in
set_option maxHeartbeats 1000000 in
theorem lp_X9_commonDivisor_7 {g : GC} {d : Nat} {h : hH} {K : Option Value → hH → Prop} (hd : 0 ≤ d) : ∀ (fuel : Nat) (l0 : Int32) (l1 : Int32) (l2 : Int32) (l3 : Int32) (l4 : Int32), Ct l4 100 → 101 - l4.toNatClampNeg < fuel → K (some (.int (f_X9_commonDivisor_L7 fuel l0 l1 l2 l3 l4))) h → AW g RX9 cX9_commonDivisor 6 (some FieldType.int) "commonDivisor" d 0 0 K 7 [(0, .int l0), (1, .int l1), (2, .int l2), (3, .int l3), (4, .int l4)] [] h := by
  intro fuel
  induction fuel with
  | zero => intro l0 l1 l2 l3 l4 i0 hm hK; exact absurd hm (Nat.not_lt_zero _)
  | succ n ih =>
    intro l0 l1 l2 l3 l4 i0 hm hK
    refine r_iload dX9_commonDivisor_7 rfl ?_
    refine r_bipush (v := (100 : Int32)) dX9_commonDivisor_9 (by decide) ?_
    refine r_icmp_ge (tgt := 34) dX9_commonDivisor_11 (by decide) (fun c1 => ?_) (fun c1 => ?_)
    · refine r_iload_n dX9_commonDivisor_34 rfl ?_
      refine r_iret dX9_commonDivisor_35 rfl rfl ?_
      exact (by rw [f_X9_commonDivisor_L7, if_pos c1] at hK; exact hK)
    · refine r_iload_n dX9_commonDivisor_14 rfl ?_
      refine r_if_eq (tgt := 34) dX9_commonDivisor_15 (by decide) (fun c2 => ?_) (fun c2 => ?_)
      · refine r_iload_n dX9_commonDivisor_34 rfl ?_
        refine r_iret dX9_commonDivisor_35 rfl rfl ?_
        exact (by rw [f_X9_commonDivisor_L7, if_neg c1, if_pos c2] at hK; exact hK)
      · refine r_iload_n dX9_commonDivisor_18 rfl ?_
        refine r_iload_n dX9_commonDivisor_19 rfl ?_
        refine r_irem dX9_commonDivisor_20 (by with_reducible assumption) ?_
        refine r_istore dX9_commonDivisor_21 (by decide) ?_
        refine r_iload_n dX9_commonDivisor_23 rfl ?_
        refine r_istore_n dX9_commonDivisor_24 (by decide) ?_
        refine r_iload dX9_commonDivisor_25 rfl ?_
        refine r_istore_n dX9_commonDivisor_27 (by decide) ?_
        refine r_iinc2 (w := (1 : Int32)) dX9_commonDivisor_28 rfl (by decide) (by decide) ?_
        refine r_goto (tgt := 7) dX9_commonDivisor_31 (by decide) ?_
        refine r_loc (L' := [(0, .int l0), (1, .int l1), (2, .int l3), (3, .int (l2 - l2 / l3 * l3)), (4, .int (l4 + (1 : Int32)))]) [4, 5, 2, 1, 0] rfl ?_
        exact ih  l0 l1 l3 (l2 - l2 / l3 * l3) (l4 + (1 : Int32)) (by exact (Ct.up (by decide) ct100 i0 (by with_reducible assumption)).2.1) (by have u := (Ct.up (by decide) ct100 i0 (by with_reducible assumption)).2.2; omega) (by rw [f_X9_commonDivisor_L7, if_neg c1, if_neg c2] at hK; exact hK)
def f_X9_commonDivisor (p1 : Int32) (p2 : Int32) : Int32 := (f_X9_commonDivisor_L7 (102)  p1 p2 p1 p2 (0 : Int32))
set_option maxRecDepth 100000 in
set_option maxHeartbeats 1000000 in
theorem ok_X9_commonDivisor {g : GC} {d : Nat} {h : hH} (hd : 0 ≤ d) (p1 : Int32) (p2 : Int32)  : AM g d 0 0 yX9_commonDivisor cX9_commonDivisor 6 (some FieldType.int) [.int p1, .int p2] h (fun v h' => v = some (.int (f_X9_commonDivisor p1 p2)) ∧ h' = h) := by
  refine AM.of2 (own := RX9) (nm := "commonDivisor") (L0 := [(0, .int p1), (1, .int p2)]) (by decide) rfl rfl (Nat.le_of_ble_eq_true rfl) rfl ?_
  refine r_iload_n dX9_commonDivisor_0 rfl ?_
  refine r_istore_n dX9_commonDivisor_1 (by decide) ?_
  refine r_iload_n dX9_commonDivisor_2 rfl ?_
  refine r_istore_n dX9_commonDivisor_3 (by decide) ?_
  refine r_iconst (v := (0 : Int32)) dX9_commonDivisor_4 (by decide) ?_
  refine r_istore dX9_commonDivisor_5 (by decide) ?_
  refine r_loc (L' := [(0, .int p1), (1, .int p2), (2, .int p1), (3, .int p2), (4, .int (0 : Int32))]) [3, 4, 2, 1, 0] rfl ?_
  exact lp_X9_commonDivisor_7 (by omega) (102)  p1 p2 p1 p2 (0 : Int32) (by exact Ct.zero _) (by omega) ⟨by rw [f_X9_commonDivisor], rfl⟩

def f_X9_lowestBit_L2 : Nat → Int32 → Int32 → Int32
  | 0, _, _ => 0
  | n + 1, l0, l1 => (if (9 : Int32) ≤ l1 then l1 else (if ((l0 >>> (l1 &&& 31)) &&& (1 : Int32)) = 0 then (f_X9_lowestBit_L2 n  l0 (l1 + (1 : Int32))) else l1))
set_option maxRecDepth 100000 in
set_option maxHeartbeats 1000000 in
theorem lp_X9_lowestBit_2 {g : GC} {d : Nat} {h : hH} {K : Option Value → hH → Prop} (hd : 0 ≤ d) : ∀ (fuel : Nat) (l0 : Int32) (l1 : Int32), Ct l1 9 → 10 - l1.toNatClampNeg < fuel → K (some (.int (f_X9_lowestBit_L2 fuel l0 l1))) h → AW g RX9 cX9_lowestBit 2 (some FieldType.int) "lowestBit" d 0 0 K 2 [(0, .int l0), (1, .int l1)] [] h := by
  intro fuel
  induction fuel with
  | zero => intro l0 l1 i0 hm hK; exact absurd hm (Nat.not_lt_zero _)
  | succ n ih =>
    intro l0 l1 i0 hm hK
    refine r_iload_n dX9_lowestBit_2 rfl ?_
    refine r_bipush (v := (9 : Int32)) dX9_lowestBit_3 (by decide) ?_
    refine r_icmp_ge (tgt := 22) dX9_lowestBit_5 (by decide) (fun c1 => ?_) (fun c1 => ?_)
    · refine r_iload_n dX9_lowestBit_22 rfl ?_
      refine r_iret dX9_lowestBit_23 rfl rfl ?_
      exact (by rw [f_X9_lowestBit_L2, if_pos c1] at hK; exact hK)
    · refine r_iload_n dX9_lowestBit_8 rfl ?_
      refine r_iload_n dX9_lowestBit_9 rfl ?_
      refine r_ishr dX9_lowestBit_10 ?_
      refine r_iconst (v := (1 : Int32)) dX9_lowestBit_11 (by decide) ?_
      refine r_iand dX9_lowestBit_12 ?_
      refine r_if_ne (tgt := 22) dX9_lowestBit_13 (by decide) (fun c2 => ?_) (fun c2 => ?_)
      · refine r_iload_n dX9_lowestBit_22 rfl ?_
        refine r_iret dX9_lowestBit_23 rfl rfl ?_
        exact (by rw [f_X9_lowestBit_L2, if_neg c1, if_neg c2] at hK; exact hK)
      · refine r_iinc2 (w := (1 : Int32)) dX9_lowestBit_16 rfl (by decide) (by decide) ?_
        refine r_goto (tgt := 2) dX9_lowestBit_19 (by decide) ?_
        refine r_loc (L' := [(0, .int l0), (1, .int (l1 + (1 : Int32)))]) [1, 0] rfl ?_
        exact ih  l0 (l1 + (1 : Int32)) (by exact (Ct.up (by decide) ct9 i0 (by with_reducible assumption)).2.1) (by have u := (Ct.up (by decide) ct9 i0 (by with_reducible assumption)).2.2; omega) (by rw [f_X9_lowestBit_L2, if_neg c1, if_pos c2] at hK; exact hK)
def f_X9_lowestBit (p1 : Int32) : Int32 := (f_X9_lowestBit_L2 (11)  p1 (0 : Int32))
set_option maxRecDepth 100000 in
set_option maxHeartbeats 1000000 in
theorem ok_X9_lowestBit {g : GC} {d : Nat} {h : hH} (hd : 0 ≤ d) (p1 : Int32)  : AM g d 0 0 yX9_lowestBit cX9_lowestBit 2 (some FieldType.int) [.int p1] h (fun v h' => v = some (.int (f_X9_lowestBit p1)) ∧ h' = h) := by
  refine AM.of2 (own := RX9) (nm := "lowestBit") (L0 := [(0, .int p1)]) (by decide) rfl rfl (Nat.le_of_ble_eq_true rfl) rfl ?_
  refine r_iconst (v := (0 : Int32)) dX9_lowestBit_0 (by decide) ?_
  refine r_istore_n dX9_lowestBit_1 (by decide) ?_
  refine r_loc (L' := [(0, .int p1), (1, .int (0 : Int32))]) [1, 0] rfl ?_
  exact lp_X9_lowestBit_2 (by omega) (11)  p1 (0 : Int32) (by exact Ct.zero _) (by omega) ⟨by rw [f_X9_lowestBit], rfl⟩

def f_X1_shownParts_L24 : Nat → Int32 → Int32 → Int32 → Int32 → Int32 → Int32 → Int32
  | 0, _, _, _, _, _, _ => 0
  | n + 1, l0, l1, l2, l3, l4, l5 => (if (3 : Int32) ≤ l5 then l4 else (if ((l3 >>> (l5 &&& 31)) &&& (1 : Int32)) = (1 : Int32) then (f_X1_shownParts_L24 n  l0 l1 l2 l3 ((l4 * (10 : Int32)) + (f_X9_partOf l1 l5)) (l5 + (1 : Int32))) else (f_X1_shownParts_L24 n  l0 l1 l2 l3 ((l4 * (10 : Int32)) + (f_X9_partOf l2 l5)) (l5 + (1 : Int32)))))
set_option maxRecDepth 100000 in
set_option maxHeartbeats 1000000 in
theorem lp_X1_shownParts_24 {g : GC} {d : Nat} {h : hH} {K : Option Value → hH → Prop} (hX : GX g) (hd : 1 ≤ d) : ∀ (fuel : Nat) (l0 : Int32) (l1 : Int32) (l2 : Int32) (l3 : Int32) (l4 : Int32) (l5 : Int32), Ct l5 3 → 4 - l5.toNatClampNeg < fuel → K (some (.int (f_X1_shownParts_L24 fuel l0 l1 l2 l3 l4 l5))) h → AW g RX1 cX1_shownParts 6 (some FieldType.int) "shownParts" d 0 0 K 24 [(0, .int l0), (1, .int l1), (2, .int l2), (3, .int l3), (4, .int l4), (5, .int l5)] [] h := by
  intro fuel
  induction fuel with
  | zero => intro l0 l1 l2 l3 l4 l5 i0 hm hK; exact absurd hm (Nat.not_lt_zero _)
  | succ n ih =>
    intro l0 l1 l2 l3 l4 l5 i0 hm hK
    refine r_iload dX1_shownParts_24 rfl ?_
    refine r_iconst (v := (3 : Int32)) dX1_shownParts_26 (by decide) ?_
    refine r_icmp_ge (tgt := 64) dX1_shownParts_27 (by decide) (fun c3 => ?_) (fun c3 => ?_)
    · refine r_iload dX1_shownParts_64 rfl ?_
      refine r_iret dX1_shownParts_66 rfl rfl ?_
      exact (by rw [f_X1_shownParts_L24, if_pos c3] at hK; exact hK)
    · refine r_iload dX1_shownParts_30 rfl ?_
      refine r_bipush (v := (10 : Int32)) dX1_shownParts_32 (by decide) ?_
      refine r_imul dX1_shownParts_34 ?_
      refine r_iload_n dX1_shownParts_35 rfl ?_
      refine r_iload dX1_shownParts_36 rfl ?_
      refine r_ishr dX1_shownParts_38 ?_
      refine r_iconst (v := (1 : Int32)) dX1_shownParts_39 (by decide) ?_
      refine r_iand dX1_shownParts_40 ?_
      refine r_iconst (v := (1 : Int32)) dX1_shownParts_41 (by decide) ?_
      refine r_icmp_ne (tgt := 49) dX1_shownParts_42 (by decide) (fun c4 => ?_) (fun c4 => ?_)
      · refine r_iload_n dX1_shownParts_49 rfl ?_
        refine r_iload dX1_shownParts_50 rfl ?_
        refine r_callSN0 (host := "OldBottles") dX1_shownParts_52 mf_X9_partOf (hX.nw _ (List.mem_of_getElem? (i := 2) rfl)) (ok_X9_partOf (d := d - 1) (by omega) _ _) rfl rfl (Nat.le_of_ble_eq_true rfl) (by omega) ?_
        refine r_iadd dX1_shownParts_55 ?_
        refine r_istore dX1_shownParts_56 (by decide) ?_
        refine r_iinc2 (w := (1 : Int32)) dX1_shownParts_58 rfl (by decide) (by decide) ?_
        refine r_goto (tgt := 24) dX1_shownParts_61 (by decide) ?_
        refine r_loc (L' := [(0, .int l0), (1, .int l1), (2, .int l2), (3, .int l3), (4, .int ((l4 * (10 : Int32)) + (f_X9_partOf l2 l5))), (5, .int (l5 + (1 : Int32)))]) [2, 3, 4, 5, 1, 0] rfl ?_
        exact ih  l0 l1 l2 l3 ((l4 * (10 : Int32)) + (f_X9_partOf l2 l5)) (l5 + (1 : Int32)) (by exact (Ct.up (by decide) ct3 i0 (by with_reducible assumption)).2.1) (by have u := (Ct.up (by decide) ct3 i0 (by with_reducible assumption)).2.2; omega) (by rw [f_X1_shownParts_L24, if_neg c3, if_neg c4] at hK; exact hK)
      · refine r_iload_n dX1_shownParts_45 rfl ?_
        refine r_goto (tgt := 50) dX1_shownParts_46 (by decide) ?_
        refine r_iload dX1_shownParts_50 rfl ?_
        refine r_callSN0 (host := "OldBottles") dX1_shownParts_52 mf_X9_partOf (hX.nw _ (List.mem_of_getElem? (i := 2) rfl)) (ok_X9_partOf (d := d - 1) (by omega) _ _) rfl rfl (Nat.le_of_ble_eq_true rfl) (by omega) ?_
        refine r_iadd dX1_shownParts_55 ?_
        refine r_istore dX1_shownParts_56 (by decide) ?_
        refine r_iinc2 (w := (1 : Int32)) dX1_shownParts_58 rfl (by decide) (by decide) ?_
        refine r_goto (tgt := 24) dX1_shownParts_61 (by decide) ?_
        refine r_loc (L' := [(0, .int l0), (1, .int l1), (2, .int l2), (3, .int l3), (4, .int ((l4 * (10 : Int32)) + (f_X9_partOf l1 l5))), (5, .int (l5 + (1 : Int32)))]) [2, 3, 4, 5, 1, 0] rfl ?_
        exact ih  l0 l1 l2 l3 ((l4 * (10 : Int32)) + (f_X9_partOf l1 l5)) (l5 + (1 : Int32)) (by exact (Ct.up (by decide) ct3 i0 (by with_reducible assumption)).2.1) (by have u := (Ct.up (by decide) ct3 i0 (by with_reducible assumption)).2.2; omega) (by rw [f_X1_shownParts_L24, if_neg c3, if_pos c4] at hK; exact hK)
def f_X1_shownParts (p1 : Int32) (p2 : Int32) (p3 : Int32) : Int32 := (if (f_X9_isUpTo p1 (5 : Int32)) = 0 then (f_X1_shownParts_L24 (5)  p1 p2 p3 (0 : Int32) (0 : Int32) (0 : Int32)) else (f_X1_shownParts_L24 (5)  p1 p2 p3 (tabV 2 (Int32.toNatClampNeg p1)) (0 : Int32) (0 : Int32)))
set_option maxRecDepth 100000 in
set_option maxHeartbeats 1000000 in
theorem ok_X1_shownParts {g : GC} {d : Nat} {h : hH} (hX : GX g) (hd : 1 ≤ d) (p1 : Int32) (p2 : Int32) (p3 : Int32)  : AM g d 0 0 yX1_shownParts cX1_shownParts 6 (some FieldType.int) [.int p1, .int p2, .int p3] h (fun v h' => v = some (.int (f_X1_shownParts p1 p2 p3)) ∧ h' = h) := by
  refine AM.of2 (own := RX1) (nm := "shownParts") (L0 := [(0, .int p1), (1, .int p2), (2, .int p3)]) (by decide) rfl rfl (Nat.le_of_ble_eq_true rfl) rfl ?_
  refine r_iload_n dX1_shownParts_0 rfl ?_
  refine r_iconst (v := (5 : Int32)) dX1_shownParts_1 (by decide) ?_
  refine r_callSN0 (host := "OldBottles") dX1_shownParts_2 mf_X9_isUpTo (hX.nw _ (List.mem_of_getElem? (i := 0) rfl)) (ok_X9_isUpTo (d := d - 1) (by omega) _ _) rfl rfl (Nat.le_of_ble_eq_true rfl) (by omega) ?_
  refine r_if_eq (tgt := 16) dX1_shownParts_5 (by decide) (fun c1 => ?_) (fun c1 => ?_)
  · refine r_iconst (v := (0 : Int32)) dX1_shownParts_16 (by decide) ?_
    refine r_istore_n dX1_shownParts_17 (by decide) ?_
    refine r_iconst (v := (0 : Int32)) dX1_shownParts_18 (by decide) ?_
    refine r_istore dX1_shownParts_19 (by decide) ?_
    refine r_iconst (v := (0 : Int32)) dX1_shownParts_21 (by decide) ?_
    refine r_istore dX1_shownParts_22 (by decide) ?_
    refine r_loc (L' := [(0, .int p1), (1, .int p2), (2, .int p3), (3, .int (0 : Int32)), (4, .int (0 : Int32)), (5, .int (0 : Int32))]) [3, 4, 5, 2, 1, 0] rfl ?_
    exact lp_X1_shownParts_24 hX (by omega) (5)  p1 p2 p3 (0 : Int32) (0 : Int32) (0 : Int32) (by exact Ct.zero _) (by omega) ⟨by rw [f_X1_shownParts, if_pos c1], rfl⟩
  · obtain ⟨t2, t2z, t2t⟩ := hX.tab 2 (by decide)
    refine r_getsN (host := "OldBottles") dX1_shownParts_8 t2z (hX.nw _ (List.mem_of_getElem? (i := 1) rfl)) ?_
    refine r_iload_n dX1_shownParts_11 rfl ?_
    refine r_ti (v := .int (tabV 2 (Int32.toNatClampNeg p1))) dX1_shownParts_12 t2t (by exact upTo_k (m := 5) (M := 5) rfl (by decide) (by with_reducible assumption)) rfl ?_
    refine r_goto (tgt := 17) dX1_shownParts_13 (by decide) ?_
    refine r_istore_n dX1_shownParts_17 (by decide) ?_
    refine r_iconst (v := (0 : Int32)) dX1_shownParts_18 (by decide) ?_
    refine r_istore dX1_shownParts_19 (by decide) ?_
    refine r_iconst (v := (0 : Int32)) dX1_shownParts_21 (by decide) ?_
    refine r_istore dX1_shownParts_22 (by decide) ?_
    refine r_loc (L' := [(0, .int p1), (1, .int p2), (2, .int p3), (3, .int (tabV 2 (Int32.toNatClampNeg p1))), (4, .int (0 : Int32)), (5, .int (0 : Int32))]) [3, 4, 5, 2, 1, 0] rfl ?_
    exact lp_X1_shownParts_24 hX (by omega) (5)  p1 p2 p3 (tabV 2 (Int32.toNatClampNeg p1)) (0 : Int32) (0 : Int32) (by exact Ct.zero _) (by omega) ⟨by rw [f_X1_shownParts, if_neg c1], rfl⟩

theorem nm_in {x : Int32} (h1 : ¬ x < -(6 : Int32)) (h2 : x < 0) : vp_in ((-1 : Int32) - x) 6 := by
  have a1 : -6 ≤ x.toInt := by
    have := Int32.not_lt.mp h1
    have := Int32.le_iff_toInt_le.mp this
    simpa using this
  have a2 : x.toInt < 0 := by simpa using Int32.lt_iff_toInt_lt.mp h2
  have e : x = Int32.ofInt x.toInt := by simp
  have k6 : ∀ z : Int, -6 ≤ z → z < 0 → vp_in ((-1 : Int32) - Int32.ofInt z) 6 := by
    intro z z1 z2
    have : z = -6 ∨ z = -5 ∨ z = -4 ∨ z = -3 ∨ z = -2 ∨ z = -1 := by omega
    unfold vp_in
    rcases this with rfl | rfl | rfl | rfl | rfl | rfl <;> decide
  rw [e]
  exact k6 _ a1 a2
theorem Ct.pre {l : Int32} {N j : Nat} {m : Int32} (hN : N < 1000000) (hm : m = nI (j + 1)) (hj : j < 1000) (hl : Ct l N) (c : ¬ l < m) : vp_in (l - nI (j + 1)) N ∧ vp_in (l - 1) N ∧ Ct (l - 1) N := by
  subst hm
  obtain ⟨k, hk, rfl⟩ := hl
  have h1 : j + 1 ≤ k := (nI_leI (by omega) (by omega)).mp (Int32.not_lt.mp c)
  rw [pk_sub h1, show (1 : Int32) = nI 1 from rfl, pk_sub (by omega)]
  exact ⟨vp_in_nI (by omega) (by omega), vp_in_nI (by omega) (by omega), ⟨k - 1, by omega, rfl⟩⟩
theorem Ct.p1 {l : Int32} {N : Nat} (hN : N < 1000000) (hl : Ct l N) (c : ¬ l < 1) : vp_in (l - 1) N := (Ct.pre hN (j := 0) (m := 1) rfl (by decide) hl c).2.1
theorem Ct.p1' {l : Int32} {N : Nat} (hN : N < 1000000) (hl : Ct l N) (c : ¬ l ≤ 0) : vp_in (l - 1) N := Ct.p1 hN hl (fun q => c (by
  obtain ⟨k, hk, rfl⟩ := hl
  have h1 : ¬ 1 ≤ k := fun z => absurd (nI_le z (by omega)) (Int32.not_le.mpr q)
  rw [show k = 0 by omega]
  exact Int32.le_refl _))
theorem Ct.p2 {l : Int32} {N : Nat} (hN : N < 1000000) (hl : Ct l N) (c : ¬ l < 2) : vp_in (l + -1) N ∧ vp_in (l + -1 - 1) N ∧ Ct (l + -1) N := by
  have e : l + -1 = l - 1 := (Int32.sub_eq_add_neg l 1).symm
  have e2 : l - 1 - 1 = l - nI 2 := by rw [Int32.sub_sub]; rfl
  have h := Ct.pre hN (j := 1) (m := 2) rfl (by decide) hl c
  rw [e, e2]
  exact ⟨h.2.1, h.1, h.2.2⟩
theorem cd_in {l : Int32} {k : Nat} (hk : k ≤ 160) (h0 : ¬ l < 0) (c : ¬ nI k ≤ l) : vp_in l k ∧ 161 - (l + 1).toNatClampNeg < 161 - l.toNatClampNeg := by
  obtain ⟨j, hj, rfl⟩ := nI_of h0
  have h1 : j < k := by
    rcases Nat.lt_or_ge j k with q | q
    · exact q
    · exact absurd (nI_le q hj) c
  rw [nI_1, nI_clamp (by omega), nI_clamp (by omega)]
  exact ⟨vp_in_nI h1 (by omega), by omega⟩
