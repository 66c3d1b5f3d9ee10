/-! the class's constructors -/
theorem AW.bud {g : GC} {own : String} {cc : ByteArray} {nL : Nat} {ret : Option FieldType} {nm : String} {d c n c' n' : Nat} {K : Option Value → hH → Prop} {pc : Nat} {L : List (Nat × Value)} {st : List Value} {h : hH} (e1 : c = c') (e2 : n = n') (k : AW g own cc nL ret nm d c' n' K pc L st h) : AW g own cc nL ret nm d c n K pc L st h := by
  subst e1; subst e2
  exact k
set_option maxRecDepth 100000 in
set_option maxHeartbeats 2000000 in
theorem mk_X0_init {g : GC} {d b : Nat} {h0 : hH} {L : KL} (hd : 1 ≤ d) (hO : KO h0 ((b, .inr (0, [.null, .null, .null])) :: L)) : AM g d 3 27 yX0_init cX0_init 1 none [.ref b] (kHp h0 ((b, .inr (0, [.null, .null, .null])) :: L)) (fun v h' => v = none ∧ ∃ a1 a2 a3 : Nat, KO h0 ((a3, .inl (0, 3, .inl (fillF 3 100 zF))) :: (a2, .inl (0, 12, .inl (fillF 12 99 zF))) :: (a1, .inl (0, 12, .inl zF)) :: (b, .inr (0, [.ref a1, .ref a2, .ref a3])) :: L) ∧ h' = kHp h0 ((a3, .inl (0, 3, .inl (fillF 3 100 zF))) :: (a2, .inl (0, 12, .inl (fillF 12 99 zF))) :: (a1, .inl (0, 12, .inl zF)) :: (b, .inr (0, [.ref a1, .ref a2, .ref a3])) :: L)) := by
  refine AM.of2 (own := RX0) (nm := "<init>") (L0 := [(0, .ref b)]) (by decide) rfl rfl (Nat.le_of_ble_eq_true rfl) rfl ?_
  refine r_aload_n dX0_init_0 rfl ?_
  refine r_objI dX0_init_1 ml_RX0_3 oi_i oi_c (Nat.le_of_ble_eq_true rfl) (by omega) ?_
  refine r_aload_n dX0_init_4 rfl ?_
  refine r_bipush (v := 12) dX0_init_5 (by decide) ?_
  refine k_newa (c' := 2) (n' := 15) (t0 := 0) (N := 12) (ty := .int) (a0 := (12, .inl zF)) dX0_init_7 ac_int rfl rfl (fun C z => by cases z) (fun cA => rfl) (by decide) (by decide) (by decide) rfl rfl hO (fun a1 o1 => ?_)
  refine k_putF (i := 1) ((a1, .inl (0, 12, .inl zF)) :: (b, .inr (0, [.ref a1, .null, .null])) :: L) dX0_init_9 fp_RX0_9 rfl rfl rfl rfl (Nat.le_of_ble_eq_true rfl) rfl o1 (fun o2 => ?_)
  refine r_aload_n dX0_init_12 rfl ?_
  refine r_bipush (v := 12) dX0_init_13 (by decide) ?_
  refine k_newa (c' := 1) (n' := 3) (t0 := 0) (N := 12) (ty := .int) (a0 := (12, .inl zF)) dX0_init_15 ac_int rfl rfl (fun C z => by cases z) (fun cA => rfl) (by decide) (by decide) (by decide) rfl rfl o2 (fun a2 o3 => ?_)
  refine k_putF (i := 2) ((a2, .inl (0, 12, .inl zF)) :: (a1, .inl (0, 12, .inl zF)) :: (b, .inr (0, [.ref a1, .ref a2, .null])) :: L) dX0_init_17 fp_RX0_15 rfl rfl rfl rfl (Nat.le_of_ble_eq_true rfl) rfl o3 (fun o4 => ?_)
  refine r_aload_n dX0_init_20 rfl ?_
  refine r_iconst (v := 3) dX0_init_21 (by decide) ?_
  refine k_newa (c' := 0) (n' := 0) (t0 := 0) (N := 3) (ty := .int) (a0 := (3, .inl zF)) dX0_init_22 ac_int rfl rfl (fun C z => by cases z) (fun cA => rfl) (by decide) (by decide) (by decide) rfl rfl o4 (fun a3 o5 => ?_)
  refine k_putF (i := 3) ((a3, .inl (0, 3, .inl zF)) :: (a2, .inl (0, 12, .inl zF)) :: (a1, .inl (0, 12, .inl zF)) :: (b, .inr (0, [.ref a1, .ref a2, .ref a3])) :: L) dX0_init_24 fp_RX0_18 rfl rfl rfl rfl (Nat.le_of_ble_eq_true rfl) rfl o5 (fun o6 => ?_)
  refine r_aload_n dX0_init_27 rfl ?_
  refine k_getf (i := 3) dX0_init_28 fl_RX0_15 rfl rfl o6 ?_
  refine r_bipush (v := 99) dX0_init_31 (by decide) ?_
  refine k_fill (i := 1) (N := 12) (f := zF) ((a3, .inl (0, 3, .inl zF)) :: (a2, .inl (0, 12, .inl (fillF 12 99 zF))) :: (a1, .inl (0, 12, .inl zF)) :: (b, .inr (0, [.ref a1, .ref a2, .ref a3])) :: L) dX0_init_33 ml_RX0_21 rfl (by decide) (Nat.le_of_ble_eq_true rfl) (by omega) rfl o6 (fun o7 => ?_)
  refine r_aload_n dX0_init_36 rfl ?_
  refine k_getf (i := 3) dX0_init_37 fl_RX0_18 rfl rfl o7 ?_
  refine r_bipush (v := 100) dX0_init_40 (by decide) ?_
  refine k_fill (i := 0) (N := 3) (f := zF) ((a3, .inl (0, 3, .inl (fillF 3 100 zF))) :: (a2, .inl (0, 12, .inl (fillF 12 99 zF))) :: (a1, .inl (0, 12, .inl zF)) :: (b, .inr (0, [.ref a1, .ref a2, .ref a3])) :: L) dX0_init_42 ml_RX0_21 rfl (by decide) (Nat.le_of_ble_eq_true rfl) (by omega) rfl o7 (fun o8 => ?_)
  refine r_vret dX0_init_45 rfl ?_
  exact ⟨rfl, a1, a2, a3, o8, rfl⟩
set_option maxRecDepth 100000 in
set_option maxHeartbeats 2000000 in
theorem mk_X3_init {g : GC} {d b : Nat} {h0 : hH} {L : KL} (hd : 1 ≤ d) (hO : KO h0 ((b, .inr (3, [.null, .null, .null, .null, .null, .int 0])) :: L)) : AM g d 5 200 yX3_init cX3_init 1 none [.ref b] (kHp h0 ((b, .inr (3, [.null, .null, .null, .null, .null, .int 0])) :: L)) (fun v h' => v = none ∧ ∃ a1 a2 a3 a4 a5 : Nat, KO h0 ((a5, .inl (0, 40, .inl zF)) :: (a4, .inl (0, 40, .inl zF)) :: (a3, .inl (0, 40, .inl zF)) :: (a2, .inl (0, 40, .inl zF)) :: (a1, .inl (0, 40, .inl zF)) :: (b, .inr (3, [.ref a1, .ref a2, .ref a3, .ref a4, .ref a5, .int 0])) :: L) ∧ h' = kHp h0 ((a5, .inl (0, 40, .inl zF)) :: (a4, .inl (0, 40, .inl zF)) :: (a3, .inl (0, 40, .inl zF)) :: (a2, .inl (0, 40, .inl zF)) :: (a1, .inl (0, 40, .inl zF)) :: (b, .inr (3, [.ref a1, .ref a2, .ref a3, .ref a4, .ref a5, .int 0])) :: L)) := by
  refine AM.of2 (own := RX3) (nm := "<init>") (L0 := [(0, .ref b)]) (by decide) rfl rfl (Nat.le_of_ble_eq_true rfl) rfl ?_
  refine r_aload_n dX3_init_0 rfl ?_
  refine r_objI dX3_init_1 ml_RX3_3 oi_i oi_c (Nat.le_of_ble_eq_true rfl) (by omega) ?_
  refine r_aload_n dX3_init_4 rfl ?_
  refine r_bipush (v := 40) dX3_init_5 (by decide) ?_
  refine k_newa (c' := 4) (n' := 160) (t0 := 0) (N := 40) (ty := .int) (a0 := (40, .inl zF)) dX3_init_7 ac_int rfl rfl (fun C z => by cases z) (fun cA => rfl) (by decide) (by decide) (by decide) rfl rfl hO (fun a1 o1 => ?_)
  refine k_putF (i := 1) ((a1, .inl (0, 40, .inl zF)) :: (b, .inr (3, [.ref a1, .null, .null, .null, .null, .int 0])) :: L) dX3_init_9 fp_RX3_9 rfl rfl rfl rfl (Nat.le_of_ble_eq_true rfl) rfl o1 (fun o2 => ?_)
  refine r_aload_n dX3_init_12 rfl ?_
  refine r_bipush (v := 40) dX3_init_13 (by decide) ?_
  refine k_newa (c' := 3) (n' := 120) (t0 := 0) (N := 40) (ty := .int) (a0 := (40, .inl zF)) dX3_init_15 ac_int rfl rfl (fun C z => by cases z) (fun cA => rfl) (by decide) (by decide) (by decide) rfl rfl o2 (fun a2 o3 => ?_)
  refine k_putF (i := 2) ((a2, .inl (0, 40, .inl zF)) :: (a1, .inl (0, 40, .inl zF)) :: (b, .inr (3, [.ref a1, .ref a2, .null, .null, .null, .int 0])) :: L) dX3_init_17 fp_RX3_15 rfl rfl rfl rfl (Nat.le_of_ble_eq_true rfl) rfl o3 (fun o4 => ?_)
  refine r_aload_n dX3_init_20 rfl ?_
  refine r_bipush (v := 40) dX3_init_21 (by decide) ?_
  refine k_newa (c' := 2) (n' := 80) (t0 := 0) (N := 40) (ty := .int) (a0 := (40, .inl zF)) dX3_init_23 ac_int rfl rfl (fun C z => by cases z) (fun cA => rfl) (by decide) (by decide) (by decide) rfl rfl o4 (fun a3 o5 => ?_)
  refine k_putF (i := 3) ((a3, .inl (0, 40, .inl zF)) :: (a2, .inl (0, 40, .inl zF)) :: (a1, .inl (0, 40, .inl zF)) :: (b, .inr (3, [.ref a1, .ref a2, .ref a3, .null, .null, .int 0])) :: L) dX3_init_25 fp_RX3_18 rfl rfl rfl rfl (Nat.le_of_ble_eq_true rfl) rfl o5 (fun o6 => ?_)
  refine r_aload_n dX3_init_28 rfl ?_
  refine r_bipush (v := 40) dX3_init_29 (by decide) ?_
  refine k_newa (c' := 1) (n' := 40) (t0 := 0) (N := 40) (ty := .int) (a0 := (40, .inl zF)) dX3_init_31 ac_int rfl rfl (fun C z => by cases z) (fun cA => rfl) (by decide) (by decide) (by decide) rfl rfl o6 (fun a4 o7 => ?_)
  refine k_putF (i := 4) ((a4, .inl (0, 40, .inl zF)) :: (a3, .inl (0, 40, .inl zF)) :: (a2, .inl (0, 40, .inl zF)) :: (a1, .inl (0, 40, .inl zF)) :: (b, .inr (3, [.ref a1, .ref a2, .ref a3, .ref a4, .null, .int 0])) :: L) dX3_init_33 fp_RX3_21 rfl rfl rfl rfl (Nat.le_of_ble_eq_true rfl) rfl o7 (fun o8 => ?_)
  refine r_aload_n dX3_init_36 rfl ?_
  refine r_bipush (v := 40) dX3_init_37 (by decide) ?_
  refine k_newa (c' := 0) (n' := 0) (t0 := 0) (N := 40) (ty := .int) (a0 := (40, .inl zF)) dX3_init_39 ac_int rfl rfl (fun C z => by cases z) (fun cA => rfl) (by decide) (by decide) (by decide) rfl rfl o8 (fun a5 o9 => ?_)
  refine k_putF (i := 5) ((a5, .inl (0, 40, .inl zF)) :: (a4, .inl (0, 40, .inl zF)) :: (a3, .inl (0, 40, .inl zF)) :: (a2, .inl (0, 40, .inl zF)) :: (a1, .inl (0, 40, .inl zF)) :: (b, .inr (3, [.ref a1, .ref a2, .ref a3, .ref a4, .ref a5, .int 0])) :: L) dX3_init_41 fp_RX3_24 rfl rfl rfl rfl (Nat.le_of_ble_eq_true rfl) rfl o9 (fun o10 => ?_)
  refine r_vret dX3_init_44 rfl ?_
  exact ⟨rfl, a1, a2, a3, a4, a5, o10, rfl⟩
set_option maxRecDepth 100000 in
set_option maxHeartbeats 2000000 in
theorem mk_X4_init {g : GC} {d b : Nat} {h0 : hH} {L : KL} (hd : 1 ≤ d) (hO : KO h0 ((b, .inr (4, [.null, .null, .int 0, .int 0, .int 0, .int 0, .int 0, .int 0, .int 0])) :: L)) : AM g d 2 320 yX4_init cX4_init 1 none [.ref b] (kHp h0 ((b, .inr (4, [.null, .null, .int 0, .int 0, .int 0, .int 0, .int 0, .int 0, .int 0])) :: L)) (fun v h' => v = none ∧ ∃ a1 a2 : Nat, KO h0 ((a2, .inl (0, 160, .inl zF)) :: (a1, .inl (1, 160, .inl zF)) :: (b, .inr (4, [.ref a1, .ref a2, .int 0, .int (-1), .int 0, .int 0, .int 0, .int 0, .int 0])) :: L) ∧ h' = kHp h0 ((a2, .inl (0, 160, .inl zF)) :: (a1, .inl (1, 160, .inl zF)) :: (b, .inr (4, [.ref a1, .ref a2, .int 0, .int (-1), .int 0, .int 0, .int 0, .int 0, .int 0])) :: L)) := by
  refine AM.of2 (own := RX4) (nm := "<init>") (L0 := [(0, .ref b)]) (by decide) rfl rfl (Nat.le_of_ble_eq_true rfl) rfl ?_
  refine r_aload_n dX4_init_0 rfl ?_
  refine r_objI dX4_init_1 ml_RX4_3 oi_i oi_c (Nat.le_of_ble_eq_true rfl) (by omega) ?_
  refine r_aload_n dX4_init_4 rfl ?_
  refine r_sipush (v := 160) dX4_init_5 (by decide) ?_
  refine k_newa (c' := 1) (n' := 160) (t0 := 1) (N := 160) (ty := .byte) (a0 := (160, .inl zF)) dX4_init_8 ac_byte rfl rfl (fun C z => by cases z) (fun cA => rfl) (by decide) (by decide) (by decide) rfl rfl hO (fun a1 o1 => ?_)
  refine k_putF (i := 1) ((a1, .inl (1, 160, .inl zF)) :: (b, .inr (4, [.ref a1, .null, .int 0, .int 0, .int 0, .int 0, .int 0, .int 0, .int 0])) :: L) dX4_init_10 fp_RX4_9 rfl rfl rfl rfl (Nat.le_of_ble_eq_true rfl) rfl o1 (fun o2 => ?_)
  refine r_aload_n dX4_init_13 rfl ?_
  refine r_sipush (v := 160) dX4_init_14 (by decide) ?_
  refine k_newa (c' := 0) (n' := 0) (t0 := 0) (N := 160) (ty := .int) (a0 := (160, .inl zF)) dX4_init_17 ac_int rfl rfl (fun C z => by cases z) (fun cA => rfl) (by decide) (by decide) (by decide) rfl rfl o2 (fun a2 o3 => ?_)
  refine k_putF (i := 2) ((a2, .inl (0, 160, .inl zF)) :: (a1, .inl (1, 160, .inl zF)) :: (b, .inr (4, [.ref a1, .ref a2, .int 0, .int 0, .int 0, .int 0, .int 0, .int 0, .int 0])) :: L) dX4_init_19 fp_RX4_15 rfl rfl rfl rfl (Nat.le_of_ble_eq_true rfl) rfl o3 (fun o4 => ?_)
  refine r_aload_n dX4_init_22 rfl ?_
  refine r_iconst (v := (-1)) dX4_init_23 (by decide) ?_
  refine k_putf (i := 2) ((a2, .inl (0, 160, .inl zF)) :: (a1, .inl (1, 160, .inl zF)) :: (b, .inr (4, [.ref a1, .ref a2, .int 0, .int (-1), .int 0, .int 0, .int 0, .int 0, .int 0])) :: L) dX4_init_24 fp_RX4_19 rfl rfl rfl (Nat.le_of_ble_eq_true rfl) rfl o4 (fun o5 => ?_)
  refine r_vret dX4_init_27 rfl ?_
  exact ⟨rfl, a1, a2, o5, rfl⟩
set_option maxRecDepth 100000 in
set_option maxHeartbeats 2000000 in
theorem mk_X6_init {g : GC} {d b : Nat} {h0 : hH} {L : KL} (hd : 1 ≤ d) (hO : KO h0 ((b, .inr (6, [.null, .int 0, .int 0])) :: L)) : AM g d 1 40 yX6_init cX6_init 1 none [.ref b] (kHp h0 ((b, .inr (6, [.null, .int 0, .int 0])) :: L)) (fun v h' => v = none ∧ ∃ a1 : Nat, KO h0 ((a1, .inl (0, 40, .inl zF)) :: (b, .inr (6, [.ref a1, .int (-1), .int 0])) :: L) ∧ h' = kHp h0 ((a1, .inl (0, 40, .inl zF)) :: (b, .inr (6, [.ref a1, .int (-1), .int 0])) :: L)) := by
  refine AM.of2 (own := RX6) (nm := "<init>") (L0 := [(0, .ref b)]) (by decide) rfl rfl (Nat.le_of_ble_eq_true rfl) rfl ?_
  refine r_aload_n dX6_init_0 rfl ?_
  refine r_objI dX6_init_1 ml_RX6_3 oi_i oi_c (Nat.le_of_ble_eq_true rfl) (by omega) ?_
  refine r_aload_n dX6_init_4 rfl ?_
  refine r_bipush (v := 40) dX6_init_5 (by decide) ?_
  refine k_newa (c' := 0) (n' := 0) (t0 := 0) (N := 40) (ty := .int) (a0 := (40, .inl zF)) dX6_init_7 ac_int rfl rfl (fun C z => by cases z) (fun cA => rfl) (by decide) (by decide) (by decide) rfl rfl hO (fun a1 o1 => ?_)
  refine k_putF (i := 1) ((a1, .inl (0, 40, .inl zF)) :: (b, .inr (6, [.ref a1, .int 0, .int 0])) :: L) dX6_init_9 fp_RX6_9 rfl rfl rfl rfl (Nat.le_of_ble_eq_true rfl) rfl o1 (fun o2 => ?_)
  refine r_aload_n dX6_init_12 rfl ?_
  refine r_iconst (v := (-1)) dX6_init_13 (by decide) ?_
  refine k_putf (i := 1) ((a1, .inl (0, 40, .inl zF)) :: (b, .inr (6, [.ref a1, .int (-1), .int 0])) :: L) dX6_init_14 fp_RX6_15 rfl rfl rfl (Nat.le_of_ble_eq_true rfl) rfl o2 (fun o3 => ?_)
  refine r_vret dX6_init_17 rfl ?_
  exact ⟨rfl, a1, o3, rfl⟩
set_option maxRecDepth 100000 in
set_option maxHeartbeats 2000000 in
theorem mk_X7_init {g : GC} {d b : Nat} {h0 : hH} {L : KL} (hd : 1 ≤ d) (hO : KO h0 ((b, .inr (7, [.int 0, .int 0, .int 0, .int 0, .int 0])) :: L)) : AM g d 0 0 yX7_init cX7_init 1 none [.ref b] (kHp h0 ((b, .inr (7, [.int 0, .int 0, .int 0, .int 0, .int 0])) :: L)) (fun v h' => v = none ∧ KO h0 ((b, .inr (7, [.int 0, .int 0, .int 0, .int 0, .int 0])) :: L) ∧ h' = kHp h0 ((b, .inr (7, [.int 0, .int 0, .int 0, .int 0, .int 0])) :: L)) := by
  refine AM.of2 (own := RX7) (nm := "<init>") (L0 := [(0, .ref b)]) (by decide) rfl rfl (Nat.le_of_ble_eq_true rfl) rfl ?_
  refine r_aload_n dX7_init_0 rfl ?_
  refine r_objI dX7_init_1 ml_RX7_1 oi_i oi_c (Nat.le_of_ble_eq_true rfl) (by omega) ?_
  refine r_vret dX7_init_4 rfl ?_
  exact ⟨rfl, hO, rfl⟩
set_option maxRecDepth 100000 in
set_option maxHeartbeats 2000000 in
theorem mk_X2_init {g : GC} {d b : Nat} {h0 : hH} {L : KL} (hd : 2 ≤ d) (hO : KO h0 ((b, .inr (2, [.null, .null, .int 0, .int 0, .int 0])) :: L)) : AM g d 5 38 yX2_init cX2_init 1 none [.ref b] (kHp h0 ((b, .inr (2, [.null, .null, .int 0, .int 0, .int 0])) :: L)) (fun v h' => v = none ∧ ∃ a4 q a1 a2 a3 : Nat, KO h0 ((a3, .inl (0, 3, .inl (fillF 3 100 zF))) :: (a2, .inl (0, 12, .inl (fillF 12 99 zF))) :: (a1, .inl (0, 12, .inl zF)) :: (q, .inr (0, [.ref a1, .ref a2, .ref a3])) :: (a4, .inl (0, 8, .inl zF)) :: (b, .inr (2, [.ref a4, .ref q, .int 0, .int 0, .int (-1)])) :: L) ∧ h' = kHp h0 ((a3, .inl (0, 3, .inl (fillF 3 100 zF))) :: (a2, .inl (0, 12, .inl (fillF 12 99 zF))) :: (a1, .inl (0, 12, .inl zF)) :: (q, .inr (0, [.ref a1, .ref a2, .ref a3])) :: (a4, .inl (0, 8, .inl zF)) :: (b, .inr (2, [.ref a4, .ref q, .int 0, .int 0, .int (-1)])) :: L)) := by
  refine AM.of2 (own := RX2) (nm := "<init>") (L0 := [(0, .ref b)]) (by decide) rfl rfl (Nat.le_of_ble_eq_true rfl) rfl ?_
  refine r_aload_n dX2_init_0 rfl ?_
  refine r_objI dX2_init_1 ml_RX2_3 oi_i oi_c (Nat.le_of_ble_eq_true rfl) (by omega) ?_
  refine r_aload_n dX2_init_4 rfl ?_
  refine r_bipush (v := 8) dX2_init_5 (by decide) ?_
  refine k_newa (c' := 4) (n' := 30) (t0 := 0) (N := 8) (ty := .int) (a0 := (8, .inl zF)) dX2_init_7 ac_int rfl rfl (fun C z => by cases z) (fun cA => rfl) (by decide) (by decide) (by decide) rfl rfl hO (fun a4 o1 => ?_)
  refine k_putF (i := 1) ((a4, .inl (0, 8, .inl zF)) :: (b, .inr (2, [.ref a4, .null, .int 0, .int 0, .int 0])) :: L) dX2_init_9 fp_RX2_9 rfl rfl rfl rfl (Nat.le_of_ble_eq_true rfl) rfl o1 (fun o2 => ?_)
  refine r_aload_n dX2_init_12 rfl ?_
  refine k_new (c' := 3) (n' := 27) dX2_init_13 nw_RX2_15 rfl rfl o2 (fun q o3 => ?_)
  refine r_dup dX2_init_16 rfl ?_
  refine r_callI (d1 := d - 1) (c1 := 3) (n1 := 27) (As := []) dX2_init_17 mf_X0_init ml_RX2_17 (mk_X0_init (by omega) o3) rfl rfl (Nat.le_of_ble_eq_true rfl) (by omega) (Nat.le_of_ble_eq_true rfl) (Nat.le_of_ble_eq_true rfl) (fun v h' hh => ?_)
  obtain ⟨rfl, a1, a2, a3, o4, rfl⟩ := hh
  refine AW.bud (c' := 0) (n' := 0) rfl rfl ?_
  refine k_putF (i := 5) ((a3, .inl (0, 3, .inl (fillF 3 100 zF))) :: (a2, .inl (0, 12, .inl (fillF 12 99 zF))) :: (a1, .inl (0, 12, .inl zF)) :: (q, .inr (0, [.ref a1, .ref a2, .ref a3])) :: (a4, .inl (0, 8, .inl zF)) :: (b, .inr (2, [.ref a4, .ref q, .int 0, .int 0, .int 0])) :: L) dX2_init_20 fp_RX2_18 rfl rfl rfl rfl (Nat.le_of_ble_eq_true rfl) rfl o4 (fun o5 => ?_)
  refine r_aload_n dX2_init_23 rfl ?_
  refine r_iconst (v := (-1)) dX2_init_24 (by decide) ?_
  refine k_putf (i := 5) ((a3, .inl (0, 3, .inl (fillF 3 100 zF))) :: (a2, .inl (0, 12, .inl (fillF 12 99 zF))) :: (a1, .inl (0, 12, .inl zF)) :: (q, .inr (0, [.ref a1, .ref a2, .ref a3])) :: (a4, .inl (0, 8, .inl zF)) :: (b, .inr (2, [.ref a4, .ref q, .int 0, .int 0, .int (-1)])) :: L) dX2_init_25 fp_RX2_22 rfl rfl rfl (Nat.le_of_ble_eq_true rfl) rfl o5 (fun o6 => ?_)
  refine r_vret dX2_init_28 rfl ?_
  exact ⟨rfl, a4, q, a1, a2, a3, o6, rfl⟩
