theorem ct10 : Ct 10 10 := ⟨10, Nat.le_refl _, rfl⟩
theorem ct3 : Ct 3 3 := ⟨3, Nat.le_refl _, rfl⟩
theorem ct11 : Ct 11 11 := ⟨11, Nat.le_refl _, rfl⟩
theorem Ct.p3 {l : Int32} (h : Ct l 3) (c : ¬ (3 : Int32) ≤ l) : P3 l := by
  obtain ⟨k, hk, rfl⟩ := h
  match k, hk with
  | 0, _ => exact P3.a
  | 1, _ => exact P3.b
  | 2, _ => exact P3.c
  | 3, _ => exact absurd (by decide) c
theorem Ct.p3' {l : Int32} (h : Ct l 3) (c : ¬ (3 : Int32) ≤ l) : vp_in l 3 := (Ct.up (by decide) ct3 h c).1

def f_X10_left (σ : MSt) (p1 : Int32) (p2 : Int32) : Int32 := (if (f_X10_isWine σ p1) = 0 then (-2 : Int32) else (if (f_X10_in (Int32.toInt64 p2) (0 : Int64) (2 : Int64)) = 0 then (-2 : Int32) else (if (σ.2.2 8 (Int32.toNatClampNeg p1)) ≤ (σ.2.2 9 (Int32.toNatClampNeg p1)) then (if p2 = 0 then (0 : Int32) else (if p2 = (2 : Int32) then (f_X10_soldOf σ p1) else (if (f_X10_soldOf σ p1) ≤ (0 : Int32) then (0 : Int32) else ((f_X10_soldOf σ p1) - (0 : Int32))))) else (if p2 = 0 then ((σ.2.2 8 (Int32.toNatClampNeg p1)) - (σ.2.2 9 (Int32.toNatClampNeg p1))) else (if p2 = (2 : Int32) then (f_X10_soldOf σ p1) else (if (f_X10_soldOf σ p1) ≤ ((σ.2.2 8 (Int32.toNatClampNeg p1)) - (σ.2.2 9 (Int32.toNatClampNeg p1))) then (0 : Int32) else ((f_X10_soldOf σ p1) - ((σ.2.2 8 (Int32.toNatClampNeg p1)) - (σ.2.2 9 (Int32.toNatClampNeg p1))))))))))
set_option maxRecDepth 100000 in
set_option maxHeartbeats 1000000 in
theorem ok_X10_left {g : GC} {E : ME} {d : Nat} (hE : MEok E) (hd : 3 ≤ d) (σ : MSt) (p1 : Int32) (p2 : Int32) (h0 : MInv σ) : MC g E d yX10_left cX10_left 5 (some FieldType.int) [.int p1, .int p2] (fun v σ' => v = some (.int (f_X10_left σ p1 p2)) ∧ σ' = σ) σ := by
  refine AM.of2 (own := RX10) (nm := "left") (L0 := [(0, .ref E.2.2), (1, .int p1), (2, .int p2)]) (by decide) rfl rfl (Nat.le_of_ble_eq_true rfl) rfl ?_
  refine r_aload_n dX10_left_0 rfl ?_
  refine r_iload_n dX10_left_1 rfl ?_
  refine m_callW dX10_left_2 mf_X10_isWine ml_RX10_165 (ok_X10_isWine (d := d - 1) hE (by omega) _ _) rfl rfl rfl (Nat.le_of_ble_eq_true rfl) (by omega) ?_
  refine r_if_eq (tgt := 20) dX10_left_5 (by decide) (fun c1 => ?_) (fun c1 => ?_)
  · refine r_bipush (v := (-2 : Int32)) dX10_left_20 (by decide) ?_
    refine r_iret dX10_left_22 rfl rfl ?_
    exact ⟨_, rfl, by rw [f_X10_left, if_pos c1], rfl⟩
  · refine r_iload_n dX10_left_8 rfl ?_
    refine r_i2l dX10_left_9 ?_
    refine r_lconst (v := (0 : Int64)) dX10_left_10 (by decide) ?_
    refine r_ldc2 dX10_left_11 kc_RX10_168 ?_
    refine m_callS dX10_left_14 mf_X10_in ml_RX10_149 (ok_X10_in (d := d - 1) (by omega) _ _ _) rfl rfl (Nat.le_of_ble_eq_true rfl) (by omega) ?_
    refine r_if_ne (tgt := 23) dX10_left_17 (by decide) (fun c2 => ?_) (fun c2 => ?_)
    · refine r_aload_n dX10_left_23 rfl ?_
      refine m_get dX10_left_24 fl_RX10_26 rfl ?_
      refine r_iload_n dX10_left_27 rfl ?_
      refine m_iald (k := 8) (N := 8) hE (by decide) rfl rfl dX10_left_28 (by with_reducible first | assumption | exact isWine_in h0 (by with_reducible assumption)) ?_
      refine r_aload_n dX10_left_29 rfl ?_
      refine m_get dX10_left_30 fl_RX10_29 rfl ?_
      refine r_iload_n dX10_left_33 rfl ?_
      refine m_iald (k := 9) (N := 8) hE (by decide) rfl rfl dX10_left_34 (by with_reducible first | assumption | exact isWine_in h0 (by with_reducible assumption)) ?_
      refine r_icmp_le (tgt := 54) dX10_left_35 (by decide) (fun c3 => ?_) (fun c3 => ?_)
      · refine r_iconst (v := (0 : Int32)) dX10_left_54 (by decide) ?_
        refine r_istore_n dX10_left_55 (by decide) ?_
        refine r_aload_n dX10_left_56 rfl ?_
        refine r_iload_n dX10_left_57 rfl ?_
        refine m_callW dX10_left_58 mf_X10_soldOf ml_RX10_388 (ok_X10_soldOf (d := d - 1) hE (by omega) _ _ (by with_reducible first | assumption | exact isWine_in h0 (by with_reducible assumption))) rfl rfl rfl (Nat.le_of_ble_eq_true rfl) (by omega) ?_
        refine r_istore dX10_left_61 (by decide) ?_
        refine r_iload_n dX10_left_63 rfl ?_
        refine r_if_ne (tgt := 71) dX10_left_64 (by decide) (fun c4 => ?_) (fun c4 => ?_)
        · refine r_iload_n dX10_left_71 rfl ?_
          refine r_iconst (v := (2 : Int32)) dX10_left_72 (by decide) ?_
          refine r_icmp_ne (tgt := 81) dX10_left_73 (by decide) (fun c5 => ?_) (fun c5 => ?_)
          · refine r_iload dX10_left_81 rfl ?_
            refine r_iload_n dX10_left_83 rfl ?_
            refine r_icmp_le (tgt := 94) dX10_left_84 (by decide) (fun c6 => ?_) (fun c6 => ?_)
            · refine r_iconst (v := (0 : Int32)) dX10_left_94 (by decide) ?_
              refine r_iret dX10_left_95 rfl rfl ?_
              exact ⟨_, rfl, by rw [f_X10_left, if_neg c1, if_neg c2, if_pos c3, if_neg c4, if_neg c5, if_pos c6], rfl⟩
            · refine r_iload dX10_left_87 rfl ?_
              refine r_iload_n dX10_left_89 rfl ?_
              refine r_isub dX10_left_90 ?_
              refine r_goto (tgt := 95) dX10_left_91 (by decide) ?_
              refine r_iret dX10_left_95 rfl rfl ?_
              exact ⟨_, rfl, by rw [f_X10_left, if_neg c1, if_neg c2, if_pos c3, if_neg c4, if_neg c5, if_neg c6], rfl⟩
          · refine r_iload dX10_left_76 rfl ?_
            refine r_goto (tgt := 95) dX10_left_78 (by decide) ?_
            refine r_iret dX10_left_95 rfl rfl ?_
            exact ⟨_, rfl, by rw [f_X10_left, if_neg c1, if_neg c2, if_pos c3, if_neg c4, if_pos c5], rfl⟩
        · refine r_iload_n dX10_left_67 rfl ?_
          refine r_goto (tgt := 95) dX10_left_68 (by decide) ?_
          refine r_iret dX10_left_95 rfl rfl ?_
          exact ⟨_, rfl, by rw [f_X10_left, if_neg c1, if_neg c2, if_pos c3, if_pos c4], rfl⟩
      · refine r_aload_n dX10_left_38 rfl ?_
        refine m_get dX10_left_39 fl_RX10_26 rfl ?_
        refine r_iload_n dX10_left_42 rfl ?_
        refine m_iald (k := 8) (N := 8) hE (by decide) rfl rfl dX10_left_43 (by with_reducible first | assumption | exact isWine_in h0 (by with_reducible assumption)) ?_
        refine r_aload_n dX10_left_44 rfl ?_
        refine m_get dX10_left_45 fl_RX10_29 rfl ?_
        refine r_iload_n dX10_left_48 rfl ?_
        refine m_iald (k := 9) (N := 8) hE (by decide) rfl rfl dX10_left_49 (by with_reducible first | assumption | exact isWine_in h0 (by with_reducible assumption)) ?_
        refine r_isub dX10_left_50 ?_
        refine r_goto (tgt := 55) dX10_left_51 (by decide) ?_
        refine r_istore_n dX10_left_55 (by decide) ?_
        refine r_aload_n dX10_left_56 rfl ?_
        refine r_iload_n dX10_left_57 rfl ?_
        refine m_callW dX10_left_58 mf_X10_soldOf ml_RX10_388 (ok_X10_soldOf (d := d - 1) hE (by omega) _ _ (by with_reducible first | assumption | exact isWine_in h0 (by with_reducible assumption))) rfl rfl rfl (Nat.le_of_ble_eq_true rfl) (by omega) ?_
        refine r_istore dX10_left_61 (by decide) ?_
        refine r_iload_n dX10_left_63 rfl ?_
        refine r_if_ne (tgt := 71) dX10_left_64 (by decide) (fun c7 => ?_) (fun c7 => ?_)
        · refine r_iload_n dX10_left_71 rfl ?_
          refine r_iconst (v := (2 : Int32)) dX10_left_72 (by decide) ?_
          refine r_icmp_ne (tgt := 81) dX10_left_73 (by decide) (fun c8 => ?_) (fun c8 => ?_)
          · refine r_iload dX10_left_81 rfl ?_
            refine r_iload_n dX10_left_83 rfl ?_
            refine r_icmp_le (tgt := 94) dX10_left_84 (by decide) (fun c9 => ?_) (fun c9 => ?_)
            · refine r_iconst (v := (0 : Int32)) dX10_left_94 (by decide) ?_
              refine r_iret dX10_left_95 rfl rfl ?_
              exact ⟨_, rfl, by rw [f_X10_left, if_neg c1, if_neg c2, if_neg c3, if_neg c7, if_neg c8, if_pos c9], rfl⟩
            · refine r_iload dX10_left_87 rfl ?_
              refine r_iload_n dX10_left_89 rfl ?_
              refine r_isub dX10_left_90 ?_
              refine r_goto (tgt := 95) dX10_left_91 (by decide) ?_
              refine r_iret dX10_left_95 rfl rfl ?_
              exact ⟨_, rfl, by rw [f_X10_left, if_neg c1, if_neg c2, if_neg c3, if_neg c7, if_neg c8, if_neg c9], rfl⟩
          · refine r_iload dX10_left_76 rfl ?_
            refine r_goto (tgt := 95) dX10_left_78 (by decide) ?_
            refine r_iret dX10_left_95 rfl rfl ?_
            exact ⟨_, rfl, by rw [f_X10_left, if_neg c1, if_neg c2, if_neg c3, if_neg c7, if_pos c8], rfl⟩
        · refine r_iload_n dX10_left_67 rfl ?_
          refine r_goto (tgt := 95) dX10_left_68 (by decide) ?_
          refine r_iret dX10_left_95 rfl rfl ?_
          exact ⟨_, rfl, by rw [f_X10_left, if_neg c1, if_neg c2, if_neg c3, if_pos c7], rfl⟩
    · refine r_bipush (v := (-2 : Int32)) dX10_left_20 (by decide) ?_
      refine r_iret dX10_left_22 rfl rfl ?_
      exact ⟨_, rfl, by rw [f_X10_left, if_neg c1, if_pos c2], rfl⟩
