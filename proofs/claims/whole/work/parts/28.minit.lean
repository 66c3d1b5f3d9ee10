def f_X10_init_L400 : Nat → MSt → Int32 → MSt
  | 0, σ, _ => σ
  | n + 1, σ, l1 => (if (3 : Int32) ≤ l1 then σ else (f_X10_init_L400 n (ma σ 15 (Int32.toNatClampNeg l1) (100 : Int32)) (l1 + (1 : Int32))))
set_option maxRecDepth 100000 in
set_option maxHeartbeats 1000000 in
theorem lp_X10_init_400 {g : GC} {E : ME} {d : Nat} {K : Option Value → MSt → Prop} (hE : MEok E) (hd : 1 ≤ d) : ∀ (fuel : Nat) (σ : MSt) (l1 : Int32), Ct l1 3 → 4 - l1.toNatClampNeg < fuel → K none (f_X10_init_L400 fuel σ l1) → MW g E cX10_init 2 none "<init>" d K 400 [(0, .ref E.2.2), (1, .int l1)] [] σ := by
  intro fuel
  induction fuel with
  | zero => intro σ l1 i0 hm hK; exact absurd hm (Nat.not_lt_zero _)
  | succ n ih =>
    intro σ l1 i0 hm hK
    refine r_iload_n dX10_init_400 rfl ?_
    refine r_iconst (v := (3 : Int32)) dX10_init_401 (by decide) ?_
    refine r_icmp_ge (tgt := 419) dX10_init_402 (by decide) (fun c2 => ?_) (fun c2 => ?_)
    · refine r_vret dX10_init_419 rfl ?_
      exact ⟨_, rfl, by rw [f_X10_init_L400, if_pos c2] at hK; exact hK⟩
    · refine r_aload_n dX10_init_405 rfl ?_
      refine m_get dX10_init_406 fl_RX10_44 rfl ?_
      refine r_iload_n dX10_init_409 rfl ?_
      refine r_bipush (v := (100 : Int32)) dX10_init_410 (by decide) ?_
      refine m_iast (k := 15) (N := 3) hE (by decide) rfl rfl dX10_init_412 (by with_reducible first | exact (Ct.up (by decide) ct12 i0 (by assumption)).1 | exact (Ct.up (by decide) ct3 i0 (by assumption)).1) ?_
      refine r_iinc2 (w := (1 : Int32)) dX10_init_413 rfl (by decide) (by decide) ?_
      refine r_goto (tgt := 400) dX10_init_416 (by decide) ?_
      refine r_loc (L' := [(0, .ref E.2.2), (1, .int (l1 + (1 : Int32)))]) [1, 0] rfl ?_
      exact ih (ma σ 15 (Int32.toNatClampNeg l1) (100 : Int32))  (l1 + (1 : Int32)) (by exact (Ct.up (by decide) ct3 i0 (by with_reducible assumption)).2.1) (by have u := (Ct.up (by decide) ct3 i0 (by with_reducible assumption)).2.2; omega) (by rw [f_X10_init_L400, if_neg c2] at hK; exact hK)
def f_X10_init_L378 : Nat → MSt → Int32 → MSt
  | 0, σ, _ => σ
  | n + 1, σ, l1 => (if (12 : Int32) ≤ l1 then (f_X10_init_L400 (5) σ (0 : Int32)) else (f_X10_init_L378 n (ma σ 14 (Int32.toNatClampNeg l1) (99 : Int32)) (l1 + (1 : Int32))))
set_option maxRecDepth 100000 in
set_option maxHeartbeats 1000000 in
theorem lp_X10_init_378 {g : GC} {E : ME} {d : Nat} {K : Option Value → MSt → Prop} (hE : MEok E) (hd : 1 ≤ d) : ∀ (fuel : Nat) (σ : MSt) (l1 : Int32), Ct l1 12 → 13 - l1.toNatClampNeg < fuel → K none (f_X10_init_L378 fuel σ l1) → MW g E cX10_init 2 none "<init>" d K 378 [(0, .ref E.2.2), (1, .int l1)] [] σ := by
  intro fuel
  induction fuel with
  | zero => intro σ l1 i0 hm hK; exact absurd hm (Nat.not_lt_zero _)
  | succ n ih =>
    intro σ l1 i0 hm hK
    refine r_iload_n dX10_init_378 rfl ?_
    refine r_bipush (v := (12 : Int32)) dX10_init_379 (by decide) ?_
    refine r_icmp_ge (tgt := 398) dX10_init_381 (by decide) (fun c1 => ?_) (fun c1 => ?_)
    · refine r_iconst (v := (0 : Int32)) dX10_init_398 (by decide) ?_
      refine r_istore_n dX10_init_399 (by decide) ?_
      refine r_loc (L' := [(0, .ref E.2.2), (1, .int (0 : Int32))]) [1, 0] rfl ?_
      exact lp_X10_init_400 hE (by omega) (5) σ (0 : Int32) (by exact Ct.zero _) (by decide) (by rw [f_X10_init_L378, if_pos c1] at hK; exact hK)
    · refine r_aload_n dX10_init_384 rfl ?_
      refine m_get dX10_init_385 fl_RX10_41 rfl ?_
      refine r_iload_n dX10_init_388 rfl ?_
      refine r_bipush (v := (99 : Int32)) dX10_init_389 (by decide) ?_
      refine m_iast (k := 14) (N := 12) hE (by decide) rfl rfl dX10_init_391 (by with_reducible first | exact (Ct.up (by decide) ct12 i0 (by assumption)).1 | exact (Ct.up (by decide) ct3 i0 (by assumption)).1) ?_
      refine r_iinc2 (w := (1 : Int32)) dX10_init_392 rfl (by decide) (by decide) ?_
      refine r_goto (tgt := 378) dX10_init_395 (by decide) ?_
      refine r_loc (L' := [(0, .ref E.2.2), (1, .int (l1 + (1 : Int32)))]) [1, 0] rfl ?_
      exact ih (ma σ 14 (Int32.toNatClampNeg l1) (99 : Int32))  (l1 + (1 : Int32)) (by exact (Ct.up (by decide) ct12 i0 (by with_reducible assumption)).2.1) (by have u := (Ct.up (by decide) ct12 i0 (by with_reducible assumption)).2.2; omega) (by rw [f_X10_init_L378, if_neg c1] at hK; exact hK)
def f_X10_init (σ : MSt) : MSt := (f_X10_init_L378 (14) (mp (ma (f_X10_spell (f_X10_spell (f_X10_spell (f_X10_spell (f_X10_spell (f_X10_spell (f_X10_spell (f_X10_spell (f_X10_spell (f_X10_spell σ (0 : Int32) (7237132191923200609 : Int64)) (8 : Int32) (8246970707946385440 : Int64)) (16 : Int32) (3107606219852884512 : Int64)) (24 : Int32) (3828107101438308384 : Int64)) (32 : Int32) (4260528884189193504 : Int64)) (40 : Int32) (7881691208369381491 : Int64)) (48 : Int32) (8028902325003235872 : Int64)) (56 : Int32) (3107537825921252128 : Int64)) (64 : Int32) (8030029659262496800 : Int64)) (72 : Int32) (3107606219852888864 : Int64)) 2 (Int32.toNatClampNeg (0 : Int32)) (80 : Int32)) 3 (1 : Int32)) (0 : Int32))
set_option maxRecDepth 100000 in
set_option maxHeartbeats 1000000 in
theorem tail_X10_init {g : GC} {E : ME} {d : Nat} (hE : MEok E) (hd : 1 ≤ d) (σ : MSt) : MW g E cX10_init 2 none "<init>" d (fun v σ' => v = none ∧ σ' = f_X10_init σ) 274 [(0, .ref E.2.2)] [] σ := by
  refine r_aload_n dX10_init_274 rfl ?_
  refine r_iconst (v := (0 : Int32)) dX10_init_275 (by decide) ?_
  refine r_ldc2 dX10_init_276 kc_RX10_117 ?_
  refine m_callV0 dX10_init_279 mf_X10_spell ml_RX10_119 (ok_X10_spell (d := d - 1) hE (by omega) _ _ _ (by exact ⟨0, by decide, rfl⟩)) rfl rfl rfl (Nat.le_of_ble_eq_true rfl) (by omega) ?_
  refine r_aload_n dX10_init_282 rfl ?_
  refine r_bipush (v := (8 : Int32)) dX10_init_283 (by decide) ?_
  refine r_ldc2 dX10_init_285 kc_RX10_123 ?_
  refine m_callV0 dX10_init_288 mf_X10_spell ml_RX10_119 (ok_X10_spell (d := d - 1) hE (by omega) _ _ _ (by exact ⟨8, by decide, rfl⟩)) rfl rfl rfl (Nat.le_of_ble_eq_true rfl) (by omega) ?_
  refine r_aload_n dX10_init_291 rfl ?_
  refine r_bipush (v := (16 : Int32)) dX10_init_292 (by decide) ?_
  refine r_ldc2 dX10_init_294 kc_RX10_125 ?_
  refine m_callV0 dX10_init_297 mf_X10_spell ml_RX10_119 (ok_X10_spell (d := d - 1) hE (by omega) _ _ _ (by exact ⟨16, by decide, rfl⟩)) rfl rfl rfl (Nat.le_of_ble_eq_true rfl) (by omega) ?_
  refine r_aload_n dX10_init_300 rfl ?_
  refine r_bipush (v := (24 : Int32)) dX10_init_301 (by decide) ?_
  refine r_ldc2 dX10_init_303 kc_RX10_127 ?_
  refine m_callV0 dX10_init_306 mf_X10_spell ml_RX10_119 (ok_X10_spell (d := d - 1) hE (by omega) _ _ _ (by exact ⟨24, by decide, rfl⟩)) rfl rfl rfl (Nat.le_of_ble_eq_true rfl) (by omega) ?_
  refine r_aload_n dX10_init_309 rfl ?_
  refine r_bipush (v := (32 : Int32)) dX10_init_310 (by decide) ?_
  refine r_ldc2 dX10_init_312 kc_RX10_129 ?_
  refine m_callV0 dX10_init_315 mf_X10_spell ml_RX10_119 (ok_X10_spell (d := d - 1) hE (by omega) _ _ _ (by exact ⟨32, by decide, rfl⟩)) rfl rfl rfl (Nat.le_of_ble_eq_true rfl) (by omega) ?_
  refine r_aload_n dX10_init_318 rfl ?_
  refine r_bipush (v := (40 : Int32)) dX10_init_319 (by decide) ?_
  refine r_ldc2 dX10_init_321 kc_RX10_131 ?_
  refine m_callV0 dX10_init_324 mf_X10_spell ml_RX10_119 (ok_X10_spell (d := d - 1) hE (by omega) _ _ _ (by exact ⟨40, by decide, rfl⟩)) rfl rfl rfl (Nat.le_of_ble_eq_true rfl) (by omega) ?_
  refine r_aload_n dX10_init_327 rfl ?_
  refine r_bipush (v := (48 : Int32)) dX10_init_328 (by decide) ?_
  refine r_ldc2 dX10_init_330 kc_RX10_133 ?_
  refine m_callV0 dX10_init_333 mf_X10_spell ml_RX10_119 (ok_X10_spell (d := d - 1) hE (by omega) _ _ _ (by exact ⟨48, by decide, rfl⟩)) rfl rfl rfl (Nat.le_of_ble_eq_true rfl) (by omega) ?_
  refine r_aload_n dX10_init_336 rfl ?_
  refine r_bipush (v := (56 : Int32)) dX10_init_337 (by decide) ?_
  refine r_ldc2 dX10_init_339 kc_RX10_135 ?_
  refine m_callV0 dX10_init_342 mf_X10_spell ml_RX10_119 (ok_X10_spell (d := d - 1) hE (by omega) _ _ _ (by exact ⟨56, by decide, rfl⟩)) rfl rfl rfl (Nat.le_of_ble_eq_true rfl) (by omega) ?_
  refine r_aload_n dX10_init_345 rfl ?_
  refine r_bipush (v := (64 : Int32)) dX10_init_346 (by decide) ?_
  refine r_ldc2 dX10_init_348 kc_RX10_137 ?_
  refine m_callV0 dX10_init_351 mf_X10_spell ml_RX10_119 (ok_X10_spell (d := d - 1) hE (by omega) _ _ _ (by exact ⟨64, by decide, rfl⟩)) rfl rfl rfl (Nat.le_of_ble_eq_true rfl) (by omega) ?_
  refine r_aload_n dX10_init_354 rfl ?_
  refine r_bipush (v := (72 : Int32)) dX10_init_355 (by decide) ?_
  refine r_ldc2 dX10_init_357 kc_RX10_139 ?_
  refine m_callV0 dX10_init_360 mf_X10_spell ml_RX10_119 (ok_X10_spell (d := d - 1) hE (by omega) _ _ _ (by exact ⟨72, by decide, rfl⟩)) rfl rfl rfl (Nat.le_of_ble_eq_true rfl) (by omega) ?_
  refine r_aload_n dX10_init_363 rfl ?_
  refine m_get dX10_init_364 fl_RX10_17 rfl ?_
  refine r_iconst (v := (0 : Int32)) dX10_init_367 (by decide) ?_
  refine r_bipush (v := (80 : Int32)) dX10_init_368 (by decide) ?_
  refine m_iast (k := 2) (N := 6) hE (by decide) rfl rfl dX10_init_370 (by exact vp_in_nI (n := 0) (N := 6) (by decide) (by decide)) ?_
  refine r_aload_n dX10_init_371 rfl ?_
  refine r_iconst (v := (1 : Int32)) dX10_init_372 (by decide) ?_
  refine m_put hE dX10_init_373 fp_RX10_141 rfl rfl rfl (by decide) ?_
  refine r_iconst (v := (0 : Int32)) dX10_init_376 (by decide) ?_
  refine r_istore_n dX10_init_377 (by decide) ?_
  refine r_loc (L' := [(0, .ref E.2.2), (1, .int (0 : Int32))]) [1, 0] rfl ?_
  exact lp_X10_init_378 hE (by omega) (14) (mp (ma (f_X10_spell (f_X10_spell (f_X10_spell (f_X10_spell (f_X10_spell (f_X10_spell (f_X10_spell (f_X10_spell (f_X10_spell (f_X10_spell σ (0 : Int32) (7237132191923200609 : Int64)) (8 : Int32) (8246970707946385440 : Int64)) (16 : Int32) (3107606219852884512 : Int64)) (24 : Int32) (3828107101438308384 : Int64)) (32 : Int32) (4260528884189193504 : Int64)) (40 : Int32) (7881691208369381491 : Int64)) (48 : Int32) (8028902325003235872 : Int64)) (56 : Int32) (3107537825921252128 : Int64)) (64 : Int32) (8030029659262496800 : Int64)) (72 : Int32) (3107606219852888864 : Int64)) 2 (Int32.toNatClampNeg (0 : Int32)) (80 : Int32)) 3 (1 : Int32)) (0 : Int32) (by exact Ct.zero _) (by decide) ⟨by rfl, by rw [f_X10_init]⟩

set_option maxRecDepth 100000 in
set_option maxHeartbeats 4000000 in
/-- the reference is made -/
theorem mk_X10_init {g : GC} {d : Nat} {h : hH} {q : Nat} (hd : 2 ≤ d) (hq : h q = some (.inr (10, [.int 0, .null, .null, .int 0, .int 0, .null, .int 0, .null, .null, .null, .null, .null, .int 0, .null, .null, .null, .null, .null, .null, .null, .int 0, .null, .null, .null, .null, .null, .int 0, .int 0, .int 0, .int 0, .int 0, .long 0, .int 0, .int 0, .int 0, .int 0, .int 0, .int 0, .int 0, .int 0, .int 0, .int 0, .null, .null, .null, .null, .null, .null, .null, .null, .null, .null, .int 0, .int 0, .int 0, .int 0, .null, .null, .null, .null]))) : AM g d 34 1938 yX10_init cX10_init 2 none [.ref q] h (fun v h' => v = none ∧ ∃ am, MEok (h, am, q) ∧ h' = mH (h, am, q) (f_X10_init sz0)) := by
  refine AM.of2 (own := RX10) (nm := "<init>") (L0 := [(0, .ref q)]) (by decide) rfl rfl (Nat.le_of_ble_eq_true rfl) rfl ?_
  refine r_aload_n dX10_init_0 rfl ?_
  refine r_objI dX10_init_1 ml_RX10_7 oi_i oi_c (Nat.le_of_ble_eq_true rfl) (by omega) ?_
  rw [← iH_0 hq]
  have A0 : AOk q [] := ⟨fun p hp => (by cases hp), fun i j p p' hi => (by cases hi)⟩
  refine r_aload_n dX10_init_4 rfl ?_
  refine r_sipush (v := 960) dX10_init_5 (by decide) ?_
  refine i_na (k := 1) (t0 := 0) (N := 960) (atype := .int) (ty := .int) dX10_init_8 dX10_init_10 fp_RX10_13 ac_int rfl rfl (fun C z => by cases z) rfl (fun cA => rfl) (by decide) (by decide) (by decide) (Nat.le_of_ble_eq_true rfl) (Nat.le_of_ble_eq_true rfl) (Nat.le_of_ble_eq_true rfl) A0 (fun a1 A1 => ?_)
  refine r_aload_n dX10_init_13 rfl ?_
  refine r_bipush (v := 6) dX10_init_14 (by decide) ?_
  refine i_na (k := 2) (t0 := 0) (N := 6) (atype := .int) (ty := .int) dX10_init_16 dX10_init_18 fp_RX10_17 ac_int rfl rfl (fun C z => by cases z) rfl (fun cA => rfl) (by decide) (by decide) (by decide) (Nat.le_of_ble_eq_true rfl) (Nat.le_of_ble_eq_true rfl) (Nat.le_of_ble_eq_true rfl) A1 (fun a2 A2 => ?_)
  refine r_aload_n dX10_init_21 rfl ?_
  refine r_sipush (v := 160) dX10_init_22 (by decide) ?_
  refine i_na (k := 5) (t0 := 0) (N := 160) (atype := .int) (ty := .int) dX10_init_25 dX10_init_27 fp_RX10_20 ac_int rfl rfl (fun C z => by cases z) rfl (fun cA => rfl) (by decide) (by decide) (by decide) (Nat.le_of_ble_eq_true rfl) (Nat.le_of_ble_eq_true rfl) (Nat.le_of_ble_eq_true rfl) A2 (fun a3 A3 => ?_)
  refine r_aload_n dX10_init_30 rfl ?_
  refine r_bipush (v := 8) dX10_init_31 (by decide) ?_
  refine i_na (k := 7) (t0 := 0) (N := 8) (atype := .int) (ty := .int) dX10_init_33 dX10_init_35 fp_RX10_23 ac_int rfl rfl (fun C z => by cases z) rfl (fun cA => rfl) (by decide) (by decide) (by decide) (Nat.le_of_ble_eq_true rfl) (Nat.le_of_ble_eq_true rfl) (Nat.le_of_ble_eq_true rfl) A3 (fun a4 A4 => ?_)
  refine r_aload_n dX10_init_38 rfl ?_
  refine r_bipush (v := 8) dX10_init_39 (by decide) ?_
  refine i_na (k := 8) (t0 := 0) (N := 8) (atype := .int) (ty := .int) dX10_init_41 dX10_init_43 fp_RX10_26 ac_int rfl rfl (fun C z => by cases z) rfl (fun cA => rfl) (by decide) (by decide) (by decide) (Nat.le_of_ble_eq_true rfl) (Nat.le_of_ble_eq_true rfl) (Nat.le_of_ble_eq_true rfl) A4 (fun a5 A5 => ?_)
  refine r_aload_n dX10_init_46 rfl ?_
  refine r_bipush (v := 8) dX10_init_47 (by decide) ?_
  refine i_na (k := 9) (t0 := 0) (N := 8) (atype := .int) (ty := .int) dX10_init_49 dX10_init_51 fp_RX10_29 ac_int rfl rfl (fun C z => by cases z) rfl (fun cA => rfl) (by decide) (by decide) (by decide) (Nat.le_of_ble_eq_true rfl) (Nat.le_of_ble_eq_true rfl) (Nat.le_of_ble_eq_true rfl) A5 (fun a6 A6 => ?_)
  refine r_aload_n dX10_init_54 rfl ?_
  refine r_bipush (v := 8) dX10_init_55 (by decide) ?_
  refine i_na (k := 10) (t0 := 0) (N := 8) (atype := .int) (ty := .int) dX10_init_57 dX10_init_59 fp_RX10_32 ac_int rfl rfl (fun C z => by cases z) rfl (fun cA => rfl) (by decide) (by decide) (by decide) (Nat.le_of_ble_eq_true rfl) (Nat.le_of_ble_eq_true rfl) (Nat.le_of_ble_eq_true rfl) A6 (fun a7 A7 => ?_)
  refine r_aload_n dX10_init_62 rfl ?_
  refine r_bipush (v := 8) dX10_init_63 (by decide) ?_
  refine i_na (k := 11) (t0 := 0) (N := 8) (atype := .int) (ty := .int) dX10_init_65 dX10_init_67 fp_RX10_35 ac_int rfl rfl (fun C z => by cases z) rfl (fun cA => rfl) (by decide) (by decide) (by decide) (Nat.le_of_ble_eq_true rfl) (Nat.le_of_ble_eq_true rfl) (Nat.le_of_ble_eq_true rfl) A7 (fun a8 A8 => ?_)
  refine r_aload_n dX10_init_70 rfl ?_
  refine r_bipush (v := 12) dX10_init_71 (by decide) ?_
  refine i_na (k := 13) (t0 := 0) (N := 12) (atype := .int) (ty := .int) dX10_init_73 dX10_init_75 fp_RX10_38 ac_int rfl rfl (fun C z => by cases z) rfl (fun cA => rfl) (by decide) (by decide) (by decide) (Nat.le_of_ble_eq_true rfl) (Nat.le_of_ble_eq_true rfl) (Nat.le_of_ble_eq_true rfl) A8 (fun a9 A9 => ?_)
  refine r_aload_n dX10_init_78 rfl ?_
  refine r_bipush (v := 12) dX10_init_79 (by decide) ?_
  refine i_na (k := 14) (t0 := 0) (N := 12) (atype := .int) (ty := .int) dX10_init_81 dX10_init_83 fp_RX10_41 ac_int rfl rfl (fun C z => by cases z) rfl (fun cA => rfl) (by decide) (by decide) (by decide) (Nat.le_of_ble_eq_true rfl) (Nat.le_of_ble_eq_true rfl) (Nat.le_of_ble_eq_true rfl) A9 (fun a10 A10 => ?_)
  refine r_aload_n dX10_init_86 rfl ?_
  refine r_iconst (v := 3) dX10_init_87 (by decide) ?_
  refine i_na (k := 15) (t0 := 0) (N := 3) (atype := .int) (ty := .int) dX10_init_88 dX10_init_90 fp_RX10_44 ac_int rfl rfl (fun C z => by cases z) rfl (fun cA => rfl) (by decide) (by decide) (by decide) (Nat.le_of_ble_eq_true rfl) (Nat.le_of_ble_eq_true rfl) (Nat.le_of_ble_eq_true rfl) A10 (fun a11 A11 => ?_)
  refine r_aload_n dX10_init_93 rfl ?_
  refine r_bipush (v := 24) dX10_init_94 (by decide) ?_
  refine i_na (k := 16) (t0 := 0) (N := 24) (atype := .int) (ty := .int) dX10_init_96 dX10_init_98 fp_RX10_47 ac_int rfl rfl (fun C z => by cases z) rfl (fun cA => rfl) (by decide) (by decide) (by decide) (Nat.le_of_ble_eq_true rfl) (Nat.le_of_ble_eq_true rfl) (Nat.le_of_ble_eq_true rfl) A11 (fun a12 A12 => ?_)
  refine r_aload_n dX10_init_101 rfl ?_
  refine r_bipush (v := 24) dX10_init_102 (by decide) ?_
  refine i_na (k := 17) (t0 := 0) (N := 24) (atype := .int) (ty := .int) dX10_init_104 dX10_init_106 fp_RX10_50 ac_int rfl rfl (fun C z => by cases z) rfl (fun cA => rfl) (by decide) (by decide) (by decide) (Nat.le_of_ble_eq_true rfl) (Nat.le_of_ble_eq_true rfl) (Nat.le_of_ble_eq_true rfl) A12 (fun a13 A13 => ?_)
  refine r_aload_n dX10_init_109 rfl ?_
  refine r_bipush (v := 24) dX10_init_110 (by decide) ?_
  refine i_na (k := 18) (t0 := 0) (N := 24) (atype := .int) (ty := .int) dX10_init_112 dX10_init_114 fp_RX10_53 ac_int rfl rfl (fun C z => by cases z) rfl (fun cA => rfl) (by decide) (by decide) (by decide) (Nat.le_of_ble_eq_true rfl) (Nat.le_of_ble_eq_true rfl) (Nat.le_of_ble_eq_true rfl) A13 (fun a14 A14 => ?_)
  refine r_aload_n dX10_init_117 rfl ?_
  refine r_bipush (v := 24) dX10_init_118 (by decide) ?_
  refine i_na (k := 19) (t0 := 0) (N := 24) (atype := .int) (ty := .int) dX10_init_120 dX10_init_122 fp_RX10_56 ac_int rfl rfl (fun C z => by cases z) rfl (fun cA => rfl) (by decide) (by decide) (by decide) (Nat.le_of_ble_eq_true rfl) (Nat.le_of_ble_eq_true rfl) (Nat.le_of_ble_eq_true rfl) A14 (fun a15 A15 => ?_)
  refine r_aload_n dX10_init_125 rfl ?_
  refine r_bipush (v := 40) dX10_init_126 (by decide) ?_
  refine i_na (k := 21) (t0 := 0) (N := 40) (atype := .int) (ty := .int) dX10_init_128 dX10_init_130 fp_RX10_59 ac_int rfl rfl (fun C z => by cases z) rfl (fun cA => rfl) (by decide) (by decide) (by decide) (Nat.le_of_ble_eq_true rfl) (Nat.le_of_ble_eq_true rfl) (Nat.le_of_ble_eq_true rfl) A15 (fun a16 A16 => ?_)
  refine r_aload_n dX10_init_133 rfl ?_
  refine r_bipush (v := 40) dX10_init_134 (by decide) ?_
  refine i_na (k := 22) (t0 := 0) (N := 40) (atype := .int) (ty := .int) dX10_init_136 dX10_init_138 fp_RX10_62 ac_int rfl rfl (fun C z => by cases z) rfl (fun cA => rfl) (by decide) (by decide) (by decide) (Nat.le_of_ble_eq_true rfl) (Nat.le_of_ble_eq_true rfl) (Nat.le_of_ble_eq_true rfl) A16 (fun a17 A17 => ?_)
  refine r_aload_n dX10_init_141 rfl ?_
  refine r_bipush (v := 40) dX10_init_142 (by decide) ?_
  refine i_na (k := 23) (t0 := 0) (N := 40) (atype := .int) (ty := .int) dX10_init_144 dX10_init_146 fp_RX10_65 ac_int rfl rfl (fun C z => by cases z) rfl (fun cA => rfl) (by decide) (by decide) (by decide) (Nat.le_of_ble_eq_true rfl) (Nat.le_of_ble_eq_true rfl) (Nat.le_of_ble_eq_true rfl) A17 (fun a18 A18 => ?_)
  refine r_aload_n dX10_init_149 rfl ?_
  refine r_bipush (v := 40) dX10_init_150 (by decide) ?_
  refine i_na (k := 24) (t0 := 0) (N := 40) (atype := .int) (ty := .int) dX10_init_152 dX10_init_154 fp_RX10_68 ac_int rfl rfl (fun C z => by cases z) rfl (fun cA => rfl) (by decide) (by decide) (by decide) (Nat.le_of_ble_eq_true rfl) (Nat.le_of_ble_eq_true rfl) (Nat.le_of_ble_eq_true rfl) A18 (fun a19 A19 => ?_)
  refine r_aload_n dX10_init_157 rfl ?_
  refine r_bipush (v := 40) dX10_init_158 (by decide) ?_
  refine i_na (k := 25) (t0 := 0) (N := 40) (atype := .int) (ty := .int) dX10_init_160 dX10_init_162 fp_RX10_71 ac_int rfl rfl (fun C z => by cases z) rfl (fun cA => rfl) (by decide) (by decide) (by decide) (Nat.le_of_ble_eq_true rfl) (Nat.le_of_ble_eq_true rfl) (Nat.le_of_ble_eq_true rfl) A19 (fun a20 A20 => ?_)
  refine r_aload_n dX10_init_165 rfl ?_
  refine r_bipush (v := 6) dX10_init_166 (by decide) ?_
  refine i_na (k := 42) (t0 := 0) (N := 6) (atype := .int) (ty := .int) dX10_init_168 dX10_init_170 fp_RX10_74 ac_int rfl rfl (fun C z => by cases z) rfl (fun cA => rfl) (by decide) (by decide) (by decide) (Nat.le_of_ble_eq_true rfl) (Nat.le_of_ble_eq_true rfl) (Nat.le_of_ble_eq_true rfl) A20 (fun a21 A21 => ?_)
  refine r_aload_n dX10_init_173 rfl ?_
  refine r_bipush (v := 72) dX10_init_174 (by decide) ?_
  refine i_na (k := 43) (t0 := 0) (N := 72) (atype := .int) (ty := .int) dX10_init_176 dX10_init_178 fp_RX10_77 ac_int rfl rfl (fun C z => by cases z) rfl (fun cA => rfl) (by decide) (by decide) (by decide) (Nat.le_of_ble_eq_true rfl) (Nat.le_of_ble_eq_true rfl) (Nat.le_of_ble_eq_true rfl) A21 (fun a22 A22 => ?_)
  refine r_aload_n dX10_init_181 rfl ?_
  refine r_bipush (v := 72) dX10_init_182 (by decide) ?_
  refine i_na (k := 44) (t0 := 0) (N := 72) (atype := .int) (ty := .int) dX10_init_184 dX10_init_186 fp_RX10_80 ac_int rfl rfl (fun C z => by cases z) rfl (fun cA => rfl) (by decide) (by decide) (by decide) (Nat.le_of_ble_eq_true rfl) (Nat.le_of_ble_eq_true rfl) (Nat.le_of_ble_eq_true rfl) A22 (fun a23 A23 => ?_)
  refine r_aload_n dX10_init_189 rfl ?_
  refine r_bipush (v := 72) dX10_init_190 (by decide) ?_
  refine i_na (k := 45) (t0 := 0) (N := 72) (atype := .int) (ty := .int) dX10_init_192 dX10_init_194 fp_RX10_83 ac_int rfl rfl (fun C z => by cases z) rfl (fun cA => rfl) (by decide) (by decide) (by decide) (Nat.le_of_ble_eq_true rfl) (Nat.le_of_ble_eq_true rfl) (Nat.le_of_ble_eq_true rfl) A23 (fun a24 A24 => ?_)
  refine r_aload_n dX10_init_197 rfl ?_
  refine r_bipush (v := 10) dX10_init_198 (by decide) ?_
  refine i_na (k := 46) (t0 := 0) (N := 10) (atype := .int) (ty := .int) dX10_init_200 dX10_init_202 fp_RX10_86 ac_int rfl rfl (fun C z => by cases z) rfl (fun cA => rfl) (by decide) (by decide) (by decide) (Nat.le_of_ble_eq_true rfl) (Nat.le_of_ble_eq_true rfl) (Nat.le_of_ble_eq_true rfl) A24 (fun a25 A25 => ?_)
  refine r_aload_n dX10_init_205 rfl ?_
  refine r_bipush (v := 10) dX10_init_206 (by decide) ?_
  refine i_na (k := 47) (t0 := 0) (N := 10) (atype := .int) (ty := .int) dX10_init_208 dX10_init_210 fp_RX10_89 ac_int rfl rfl (fun C z => by cases z) rfl (fun cA => rfl) (by decide) (by decide) (by decide) (Nat.le_of_ble_eq_true rfl) (Nat.le_of_ble_eq_true rfl) (Nat.le_of_ble_eq_true rfl) A25 (fun a26 A26 => ?_)
  refine r_aload_n dX10_init_213 rfl ?_
  refine r_bipush (v := 8) dX10_init_214 (by decide) ?_
  refine i_na (k := 48) (t0 := 0) (N := 8) (atype := .int) (ty := .int) dX10_init_216 dX10_init_218 fp_RX10_92 ac_int rfl rfl (fun C z => by cases z) rfl (fun cA => rfl) (by decide) (by decide) (by decide) (Nat.le_of_ble_eq_true rfl) (Nat.le_of_ble_eq_true rfl) (Nat.le_of_ble_eq_true rfl) A26 (fun a27 A27 => ?_)
  refine r_aload_n dX10_init_221 rfl ?_
  refine r_bipush (v := 12) dX10_init_222 (by decide) ?_
  refine i_na (k := 49) (t0 := 0) (N := 12) (atype := .int) (ty := .int) dX10_init_224 dX10_init_226 fp_RX10_95 ac_int rfl rfl (fun C z => by cases z) rfl (fun cA => rfl) (by decide) (by decide) (by decide) (Nat.le_of_ble_eq_true rfl) (Nat.le_of_ble_eq_true rfl) (Nat.le_of_ble_eq_true rfl) A27 (fun a28 A28 => ?_)
  refine r_aload_n dX10_init_229 rfl ?_
  refine r_bipush (v := 12) dX10_init_230 (by decide) ?_
  refine i_na (k := 50) (t0 := 0) (N := 12) (atype := .int) (ty := .int) dX10_init_232 dX10_init_234 fp_RX10_98 ac_int rfl rfl (fun C z => by cases z) rfl (fun cA => rfl) (by decide) (by decide) (by decide) (Nat.le_of_ble_eq_true rfl) (Nat.le_of_ble_eq_true rfl) (Nat.le_of_ble_eq_true rfl) A28 (fun a29 A29 => ?_)
  refine r_aload_n dX10_init_237 rfl ?_
  refine r_iconst (v := 3) dX10_init_238 (by decide) ?_
  refine i_na (k := 51) (t0 := 0) (N := 3) (atype := .int) (ty := .int) dX10_init_239 dX10_init_241 fp_RX10_101 ac_int rfl rfl (fun C z => by cases z) rfl (fun cA => rfl) (by decide) (by decide) (by decide) (Nat.le_of_ble_eq_true rfl) (Nat.le_of_ble_eq_true rfl) (Nat.le_of_ble_eq_true rfl) A29 (fun a30 A30 => ?_)
  refine r_aload_n dX10_init_244 rfl ?_
  refine r_iconst (v := 4) dX10_init_245 (by decide) ?_
  refine i_na (k := 56) (t0 := 2) (N := 4) (atype := .boolean) (ty := .boolean) dX10_init_246 dX10_init_248 fp_RX10_104 ac_boolean rfl rfl (fun C z => by cases z) rfl (fun cA => rfl) (by decide) (by decide) (by decide) (Nat.le_of_ble_eq_true rfl) (Nat.le_of_ble_eq_true rfl) (Nat.le_of_ble_eq_true rfl) A30 (fun a31 A31 => ?_)
  refine r_aload_n dX10_init_251 rfl ?_
  refine r_iconst (v := 4) dX10_init_252 (by decide) ?_
  refine i_na (k := 57) (t0 := 0) (N := 4) (atype := .int) (ty := .int) dX10_init_253 dX10_init_255 fp_RX10_108 ac_int rfl rfl (fun C z => by cases z) rfl (fun cA => rfl) (by decide) (by decide) (by decide) (Nat.le_of_ble_eq_true rfl) (Nat.le_of_ble_eq_true rfl) (Nat.le_of_ble_eq_true rfl) A31 (fun a32 A32 => ?_)
  refine r_aload_n dX10_init_258 rfl ?_
  refine r_iconst (v := 4) dX10_init_259 (by decide) ?_
  refine i_na (k := 58) (t0 := 0) (N := 4) (atype := .int) (ty := .int) dX10_init_260 dX10_init_262 fp_RX10_111 ac_int rfl rfl (fun C z => by cases z) rfl (fun cA => rfl) (by decide) (by decide) (by decide) (Nat.le_of_ble_eq_true rfl) (Nat.le_of_ble_eq_true rfl) (Nat.le_of_ble_eq_true rfl) A32 (fun a33 A33 => ?_)
  refine r_aload_n dX10_init_265 rfl ?_
  refine r_sipush (v := 160) dX10_init_266 (by decide) ?_
  refine i_na (k := 59) (t0 := 0) (N := 160) (atype := .int) (ty := .int) dX10_init_269 dX10_init_271 fp_RX10_114 ac_int rfl rfl (fun C z => by cases z) rfl (fun cA => rfl) (by decide) (by decide) (by decide) (Nat.le_of_ble_eq_true rfl) (Nat.le_of_ble_eq_true rfl) (Nat.le_of_ble_eq_true rfl) A33 (fun a34 A34 => ?_)
  obtain ⟨e1, e2⟩ := iH_mH (h0 := h) rfl A34 rfl
  rw [e1]
  exact AW.mono (fun v h' ⟨s, es, ev, e⟩ => ⟨ev, _, e2, by rw [es, e]⟩) (tail_X10_init e2 (by omega) sz0)
