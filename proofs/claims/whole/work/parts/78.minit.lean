def f_X10_init_L400 : Nat → MSt → Int32 → MSt
  | 0, σ, _ => σ
  | n + 1, σ, l1 => (if (3 : Int32) ≤ l1 then σ else (f_X10_init_L400 n (ma σ 15 (Int32.toNatClampNeg l1) (100 : Int32)) (l1 + (1 : Int32))))
set_option maxRecDepth 100000 in
set_option maxHeartbeats 1000000 in
theorem lp_X10_init_400 {g : GC} {E : ME} {d : Nat} {K : Option Value → MSt → Prop} (hE : MEok E) (hd : 1 ≤ d) : ∀ (fuel : Nat) (σ : MSt) (l1 : Int32), Ct l1 3 → 4 - l1.toNatClampNeg < fuel → K none (f_X10_init_L400 fuel σ l1) → MW g E cX10_init 2 none "<init>" d K 400 [(0, .ref E.2.2), (1, .int l1)] [] σ := by
  intro fuel
  induction fuel with
  | zero => intro σ l1 i0 hm hK; exact absurd hm (Nat.not_lt_zero _)
  | succ n ih =>
    intro σ l1 i0 hm hK
    refine r_iload_n dX10_init_400 rfl ?_
    refine r_iconst (v := (3 : Int32)) dX10_init_401 (by decide) ?_
    refine r_icmp_ge (tgt := 419) dX10_init_402 (by decide) (fun c2 => ?_) (fun c2 => ?_)
    · refine r_vret dX10_init_419 rfl ?_
      exact ⟨_, rfl, by rw [f_X10_init_L400, if_pos c2] at hK; exact hK⟩
    · refine r_aload_n dX10_init_405 rfl ?_
      refine m_get dX10_init_406 fl_RX10_44 rfl ?_
      refine r_iload_n dX10_init_409 rfl ?_
      refine r_bipush (v := (100 : Int32)) dX10_init_410 (by decide) ?_
      refine m_iast (k := 15) (N := 3) hE (by decide) rfl rfl dX10_init_412 (by with_reducible first | exact (Ct.up (by decide) ct12 i0 (by assumption)).1 | exact (Ct.up (by decide) ct3 i0 (by assumption)).1) ?_
      refine r_iinc2 (w := (1 : Int32)) dX10_init_413 rfl (by decide) (by decide) ?_
      refine r_goto (tgt := 400) dX10_init_416 (by decide) ?_
      refine r_loc (L' := [(0, .ref E.2.2), (1, .int (l1 + (1 : Int32)))]) [1, 0] rfl ?_
      exact ih (ma σ 15 (Int32.toNatClampNeg l1) (100 : Int32))  (l1 + (1 : Int32)) (by exact (Ct.up (by decide) ct3 i0 (by with_reducible assumption)).2.1) (by have u := (Ct.up (by decide) ct3 i0 (by with_reducible assumption)).2.2; omega) (by rw [f_X10_init_L400, if_neg c2] at hK; exact hK)
def f_X10_init_L378 : Nat → MSt → Int32 → MSt
  | 0, σ, _ => σ
  | n + 1, σ, l1 => (if (12 : Int32) ≤ l1 then (f_X10_init_L400 (5) σ (0 : Int32)) else (f_X10_init_L378 n (ma σ 14 (Int32.toNatClampNeg l1) (99 : Int32)) (l1 + (1 : Int32))))
set_option maxRecDepth 100000 in
set_option maxHeartbeats 1000000 in
theorem lp_X10_init_378 {g : GC} {E : ME} {d : Nat} {K : Option Value → MSt → Prop} (hE : MEok E) (hd : 1 ≤ d) : ∀ (fuel : Nat) (σ : MSt) (l1 : Int32), Ct l1 12 → 13 - l1.toNatClampNeg < fuel → K none (f_X10_init_L378 fuel σ l1) → MW g E cX10_init 2 none "<init>" d K 378 [(0, .ref E.2.2), (1, .int l1)] [] σ := by
  intro fuel
  induction fuel with
  | zero => intro σ l1 i0 hm hK; exact absurd hm (Nat.not_lt_zero _)
  | succ n ih =>
    intro σ l1 i0 hm hK
    refine r_iload_n dX10_init_378 rfl ?_
    refine r_bipush (v := (12 : Int32)) dX10_init_379 (by decide) ?_
    refine r_icmp_ge (tgt := 398) dX10_init_381 (by decide) (fun c1 => ?_) (fun c1 => ?_)
    · refine r_iconst (v := (0 : Int32)) dX10_init_398 (by decide) ?_
      refine r_istore_n dX10_init_399 (by decide) ?_
      refine r_loc (L' := [(0, .ref E.2.2), (1, .int (0 : Int32))]) [1, 0] rfl ?_
      exact lp_X10_init_400 hE (by omega) (5) σ (0 : Int32) (by exact Ct.zero _) (by decide) (by rw [f_X10_init_L378, if_pos c1] at hK; exact hK)
    · refine r_aload_n dX10_init_384 rfl ?_
      refine m_get dX10_init_385 fl_RX10_41 rfl ?_
      refine r_iload_n dX10_init_388 rfl ?_
      refine r_bipush (v := (99 : Int32)) dX10_init_389 (by decide) ?_
      refine m_iast (k := 14) (N := 12) hE (by decide) rfl rfl dX10_init_391 (by with_reducible first | exact (Ct.up (by decide) ct12 i0 (by assumption)).1 | exact (Ct.up (by decide) ct3 i0 (by assumption)).1) ?_
      refine r_iinc2 (w := (1 : Int32)) dX10_init_392 rfl (by decide) (by decide) ?_
      refine r_goto (tgt := 378) dX10_init_395 (by decide) ?_
      refine r_loc (L' := [(0, .ref E.2.2), (1, .int (l1 + (1 : Int32)))]) [1, 0] rfl ?_
      exact ih (ma σ 14 (Int32.toNatClampNeg l1) (99 : Int32))  (l1 + (1 : Int32)) (by exact (Ct.up (by decide) ct12 i0 (by with_reducible assumption)).2.1) (by have u := (Ct.up (by decide) ct12 i0 (by with_reducible assumption)).2.2; omega) (by rw [f_X10_init_L378, if_neg c1] at hK; exact hK)
def f_X10_init (σ : MSt) : MSt := (f_X10_init_L378 (14) (mp (ma (f_X10_spell (f_X10_spell (f_X10_spell (f_X10_spell (f_X10_spell (f_X10_spell (f_X10_spell (f_X10_spell (f_X10_spell (f_X10_spell σ (0 : Int32) (7237132191923200609 : Int64)) (8 : Int32) (8246970707946385440 : Int64)) (16 : Int32) (3107606219852884512 : Int64)) (24 : Int32) (3828107101438308384 : Int64)) (32 : Int32) (4260528884189193504 : Int64)) (40 : Int32) (7881691208369381491 : Int64)) (48 : Int32) (8028902325003235872 : Int64)) (56 : Int32) (3107537825921252128 : Int64)) (64 : Int32) (8030029659262496800 : Int64)) (72 : Int32) (3107606219852888864 : Int64)) 2 (Int32.toNatClampNeg (0 : Int32)) (80 : Int32)) 3 (1 : Int32)) (0 : Int32))
set_option maxRecDepth 100000 in
set_option maxHeartbeats 1000000 in
theorem tail_X10_init {g : GC} {E : ME} {d : Nat} (hE : MEok E) (hd : 1 ≤ d) (σ : MSt) : MW g E cX10_init 2 none "<init>" d (fun v σ' => v = none ∧ σ' = f_X10_init σ) 274 [(0, .ref E.2.2)] [] σ := by
  refine r_aload_n dX10_init_274 rfl ?_
  refine r_iconst (v := (0 : Int32)) dX10_init_275 (by decide) ?_
  refine r_ldc2 dX10_init_276 kc_RX10_117 ?_
  refine m_callV0 dX10_init_279 mf_X10_spell ml_RX10_119 (ok_X10_spell (d := d - 1) hE (by omega) _ _ _ (by exact ⟨0, by decide, rfl⟩)) rfl rfl rfl (Nat.le_of_ble_eq_true rfl) (by omega) ?_
  refine r_aload_n dX10_init_282 rfl ?_
  refine r_bipush (v := (8 : Int32)) dX10_init_283 (by decide) ?_
  refine r_ldc2 dX10_init_285 kc_RX10_123 ?_
  refine m_callV0 dX10_init_288 mf_X10_spell ml_RX10_119 (ok_X10_spell (d := d - 1) hE (by omega) _ _ _ (by exact ⟨8, by decide, rfl⟩)) rfl rfl rfl (Nat.le_of_ble_eq_true rfl) (by omega) ?_
  refine r_aload_n dX10_init_291 rfl ?_
  refine r_bipush (v := (16 : Int32)) dX10_init_292 (by decide) ?_
  refine r_ldc2 dX10_init_294 kc_RX10_125 ?_
  refine m_callV0 dX10_init_297 mf_X10_spell ml_RX10_119 (ok_X10_spell (d := d - 1) hE (by omega) _ _ _ (by exact ⟨16, by decide, rfl⟩)) rfl rfl rfl (Nat.le_of_ble_eq_true rfl) (by omega) ?_
  refine r_aload_n dX10_init_300 rfl ?_
  refine r_bipush (v := (24 : Int32)) dX10_init_301 (by decide) ?_
  refine r_ldc2 dX10_init_303 kc_RX10_127 ?_
  refine m_callV0 dX10_init_306 mf_X10_spell ml_RX10_119 (ok_X10_spell (d := d - 1) hE (by omega) _ _ _ (by exact ⟨24, by decide, rfl⟩)) rfl rfl rfl (Nat.le_of_ble_eq_true rfl) (by omega) ?_
  refine r_aload_n dX10_init_309 rfl ?_
  refine r_bipush (v := (32 : Int32)) dX10_init_310 (by decide) ?_
  refine r_ldc2 dX10_init_312 kc_RX10_129 ?_
  refine m_callV0 dX10_init_315 mf_X10_spell ml_RX10_119 (ok_X10_spell (d := d - 1) hE (by omega) _ _ _ (by exact ⟨32, by decide, rfl⟩)) rfl rfl rfl (Nat.le_of_ble_eq_true rfl) (by omega) ?_
  refine r_aload_n dX10_init_318 rfl ?_
  refine r_bipush (v := (40 : Int32)) dX10_init_319 (by decide) ?_
  refine r_ldc2 dX10_init_321 kc_RX10_131 ?_
  refine m_callV0 dX10_init_324 mf_X10_spell ml_RX10_119 (ok_X10_spell (d := d - 1) hE (by omega) _ _ _ (by exact ⟨40, by decide, rfl⟩)) rfl rfl rfl (Nat.le_of_ble_eq_true rfl) (by omega) ?_
  refine r_aload_n dX10_init_327 rfl ?_
  refine r_bipush (v := (48 : Int32)) dX10_init_328 (by decide) ?_
  refine r_ldc2 dX10_init_330 kc_RX10_133 ?_
  refine m_callV0 dX10_init_333 mf_X10_spell ml_RX10_119 (ok_X10_spell (d := d - 1) hE (by omega) _ _ _ (by exact ⟨48, by decide, rfl⟩)) rfl rfl rfl (Nat.le_of_ble_eq_true rfl) (by omega) ?_
  refine r_aload_n dX10_init_336 rfl ?_
  refine r_bipush (v := (56 : Int32)) dX10_init_337 (by decide) ?_
  refine r_ldc2 dX10_init_339 kc_RX10_135 ?_
  refine m_callV0 dX10_init_342 mf_X10_spell ml_RX10_119 (ok_X10_spell (d := d - 1) hE (by omega) _ _ _ (by exact ⟨56, by decide, rfl⟩)) rfl rfl rfl (Nat.le_of_ble_eq_true rfl) (by omega) ?_
  refine r_aload_n dX10_init_345 rfl ?_
  refine r_bipush (v := (64 : Int32)) dX10_init_346 (by decide) ?_
  refine r_ldc2 dX10_init_348 kc_RX10_137 ?_
  refine m_callV0 dX10_init_351 mf_X10_spell ml_RX10_119 (ok_X10_spell (d := d - 1) hE (by omega) _ _ _ (by exact ⟨64, by decide, rfl⟩)) rfl rfl rfl (Nat.le_of_ble_eq_true rfl) (by omega) ?_
  refine r_aload_n dX10_init_354 rfl ?_
  refine r_bipush (v := (72 : Int32)) dX10_init_355 (by decide) ?_
  refine r_ldc2 dX10_init_357 kc_RX10_139 ?_
  refine m_callV0 dX10_init_360 mf_X10_spell ml_RX10_119 (ok_X10_spell (d := d - 1) hE (by omega) _ _ _ (by exact ⟨72, by decide, rfl⟩)) rfl rfl rfl (Nat.le_of_ble_eq_true rfl) (by omega) ?_
  refine r_aload_n dX10_init_363 rfl ?_
  refine m_get dX10_init_364 fl_RX10_17 rfl ?_
  refine r_iconst (v := (0 : Int32)) dX10_init_367 (by decide) ?_
  refine r_bipush (v := (80 : Int32)) dX10_init_368 (by decide) ?_
  refine m_iast (k := 2) (N := 6) hE (by decide) rfl rfl dX10_init_370 (by exact vp_in_nI (n := 0) (N := 6) (by decide) (by decide)) ?_
  refine r_aload_n dX10_init_371 rfl ?_
  refine r_iconst (v := (1 : Int32)) dX10_init_372 (by decide) ?_
  refine m_put hE dX10_init_373 fp_RX10_141 rfl rfl rfl (by decide) ?_
  refine r_iconst (v := (0 : Int32)) dX10_init_376 (by decide) ?_
  refine r_istore_n dX10_init_377 (by decide) ?_
  refine r_loc (L' := [(0, .ref E.2.2), (1, .int (0 : Int32))]) [1, 0] rfl ?_
  exact lp_X10_init_378 hE (by omega) (14) (mp (ma (f_X10_spell (f_X10_spell (f_X10_spell (f_X10_spell (f_X10_spell (f_X10_spell (f_X10_spell (f_X10_spell (f_X10_spell (f_X10_spell σ (0 : Int32) (7237132191923200609 : Int64)) (8 : Int32) (8246970707946385440 : Int64)) (16 : Int32) (3107606219852884512 : Int64)) (24 : Int32) (3828107101438308384 : Int64)) (32 : Int32) (4260528884189193504 : Int64)) (40 : Int32) (7881691208369381491 : Int64)) (48 : Int32) (8028902325003235872 : Int64)) (56 : Int32) (3107537825921252128 : Int64)) (64 : Int32) (8030029659262496800 : Int64)) (72 : Int32) (3107606219852888864 : Int64)) 2 (Int32.toNatClampNeg (0 : Int32)) (80 : Int32)) 3 (1 : Int32)) (0 : Int32) (by exact Ct.zero _) (by decide) ⟨by rfl, by rw [f_X10_init]⟩
