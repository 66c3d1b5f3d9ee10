def f_X10_owed_L16 : Nat → MSt → Int32 → Int64 → Int32 → Int64
  | 0, _, _, _, _ => 0
  | n + 1, σ, l1, l2, l4 => (if (σ.1 26) ≤ l4 then l2 else (if (f_X10_isBarred σ (σ.2.2 21 (Int32.toNatClampNeg l4))) = 0 then (f_X10_owed_L16 n σ l1 l2 (l4 + (1 : Int32))) else (if (σ.2.2 23 (Int32.toNatClampNeg l4)) = l1 then (if (σ.2.2 22 (Int32.toNatClampNeg l4)) = l1 then (f_X10_owed_L16 n σ l1 ((l2 + (Int32.toInt64 (σ.2.2 24 (Int32.toNatClampNeg l4)))) - (Int32.toInt64 (σ.2.2 24 (Int32.toNatClampNeg l4)))) (l4 + (1 : Int32))) else (f_X10_owed_L16 n σ l1 ((l2 + (Int32.toInt64 (σ.2.2 24 (Int32.toNatClampNeg l4)))) - (0 : Int64)) (l4 + (1 : Int32)))) else (if (σ.2.2 22 (Int32.toNatClampNeg l4)) = l1 then (f_X10_owed_L16 n σ l1 ((l2 + (0 : Int64)) - (Int32.toInt64 (σ.2.2 24 (Int32.toNatClampNeg l4)))) (l4 + (1 : Int32))) else (f_X10_owed_L16 n σ l1 ((l2 + (0 : Int64)) - (0 : Int64)) (l4 + (1 : Int32)))))))
set_option maxRecDepth 100000 in
set_option maxHeartbeats 1000000 in
theorem lp_X10_owed_16 {g : GC} {E : ME} {d : Nat} {K : Option Value → MSt → Prop} (hE : MEok E) (hd : 5 ≤ d) : ∀ (fuel : Nat) (σ : MSt) (l1 : Int32) (l2 : Int64) (l4 : Int32), MInv σ → Ct l4 40 → 41 - l4.toNatClampNeg < fuel → K (some (.long (f_X10_owed_L16 fuel σ l1 l2 l4))) σ → MW g E cX10_owed 5 (some FieldType.long) "owed" d K 16 [(0, .ref E.2.2), (1, .int l1), (2, .long l2), (4, .int l4)] [] σ := by
  intro fuel
  induction fuel with
  | zero => intro σ l1 l2 l4 i0 i1 hm hK; exact absurd hm (Nat.not_lt_zero _)
  | succ n ih =>
    intro σ l1 l2 l4 i0 i1 hm hK
    refine r_iload dX10_owed_16 rfl ?_
    refine r_aload_n dX10_owed_18 rfl ?_
    refine m_get dX10_owed_19 fl_RX10_232 rfl ?_
    refine r_icmp_ge (tgt := 100) dX10_owed_22 (by decide) (fun c2 => ?_) (fun c2 => ?_)
    · refine r_lload_n dX10_owed_100 rfl ?_
      refine r_lret dX10_owed_101 rfl ?_
      exact ⟨_, rfl, by rw [f_X10_owed_L16, if_pos c2] at hK; exact hK⟩
    · refine r_aload_n dX10_owed_25 rfl ?_
      refine r_aload_n dX10_owed_26 rfl ?_
      refine m_get dX10_owed_27 fl_RX10_59 rfl ?_
      refine r_iload dX10_owed_30 rfl ?_
      refine m_iald (k := 21) (N := 40) hE (by decide) rfl rfl dX10_owed_32 (by with_reducible first | assumption | exact i0.sb _ | exact (Ct.up (by decide) i0.ns i1 (by with_reducible assumption)).1) ?_
      refine m_callW dX10_owed_33 mf_X10_isBarred ml_RX10_209 (ok_X10_isBarred (d := d - 1) hE (by omega) _ _ (by with_reducible first | assumption | exact i0.sb _ | exact (Ct.up (by decide) i0.ns i1 (by with_reducible assumption)).1) (by with_reducible first | assumption | exact i0.sb _ | exact (Ct.up (by decide) i0.ns i1 (by with_reducible assumption)).1)) rfl rfl rfl (Nat.le_of_ble_eq_true rfl) (by omega) ?_
      refine r_if_ne (tgt := 42) dX10_owed_36 (by decide) (fun c3 => ?_) (fun c3 => ?_)
      · refine r_lload_n dX10_owed_42 rfl ?_
        refine r_aload_n dX10_owed_43 rfl ?_
        refine m_get dX10_owed_44 fl_RX10_65 rfl ?_
        refine r_iload dX10_owed_47 rfl ?_
        refine m_iald (k := 23) (N := 40) hE (by decide) rfl rfl dX10_owed_49 (by with_reducible first | assumption | exact i0.sb _ | exact (Ct.up (by decide) i0.ns i1 (by with_reducible assumption)).1) ?_
        refine r_iload_n dX10_owed_50 rfl ?_
        refine r_icmp_ne (tgt := 65) dX10_owed_51 (by decide) (fun c4 => ?_) (fun c4 => ?_)
        · refine r_lconst (v := (0 : Int64)) dX10_owed_65 (by decide) ?_
          refine r_ladd dX10_owed_66 ?_
          refine r_lstore_n dX10_owed_67 (by decide) ?_
          refine r_lload_n dX10_owed_68 rfl ?_
          refine r_aload_n dX10_owed_69 rfl ?_
          refine m_get dX10_owed_70 fl_RX10_62 rfl ?_
          refine r_iload dX10_owed_73 rfl ?_
          refine m_iald (k := 22) (N := 40) hE (by decide) rfl rfl dX10_owed_75 (by with_reducible first | assumption | exact i0.sb _ | exact (Ct.up (by decide) i0.ns i1 (by with_reducible assumption)).1) ?_
          refine r_iload_n dX10_owed_76 rfl ?_
          refine r_icmp_ne (tgt := 91) dX10_owed_77 (by decide) (fun c5 => ?_) (fun c5 => ?_)
          · refine r_lconst (v := (0 : Int64)) dX10_owed_91 (by decide) ?_
            refine r_lsub dX10_owed_92 ?_
            refine r_lstore_n dX10_owed_93 (by decide) ?_
            refine r_iinc2 (w := (1 : Int32)) dX10_owed_94 rfl (by decide) (by decide) ?_
            refine r_goto (tgt := 16) dX10_owed_97 (by decide) ?_
            refine r_loc (L' := [(0, .ref E.2.2), (1, .int l1), (2, .long ((l2 + (0 : Int64)) - (0 : Int64))), (4, .int (l4 + (1 : Int32)))]) [2, 3, 1, 0] rfl ?_
            exact ih σ  l1 ((l2 + (0 : Int64)) - (0 : Int64)) (l4 + (1 : Int32)) (by exact i0) (by exact (Ct.up (by decide) i0.ns i1 (by with_reducible assumption)).2.1) (by have u := (Ct.up (by decide) i0.ns i1 (by with_reducible assumption)).2.2; omega) (by rw [f_X10_owed_L16, if_neg c2, if_neg c3, if_neg c4, if_neg c5] at hK; exact hK)
          · refine r_aload_n dX10_owed_80 rfl ?_
            refine m_get dX10_owed_81 fl_RX10_68 rfl ?_
            refine r_iload dX10_owed_84 rfl ?_
            refine m_iald (k := 24) (N := 40) hE (by decide) rfl rfl dX10_owed_86 (by with_reducible first | assumption | exact i0.sb _ | exact (Ct.up (by decide) i0.ns i1 (by with_reducible assumption)).1) ?_
            refine r_i2l dX10_owed_87 ?_
            refine r_goto (tgt := 92) dX10_owed_88 (by decide) ?_
            refine r_lsub dX10_owed_92 ?_
            refine r_lstore_n dX10_owed_93 (by decide) ?_
            refine r_iinc2 (w := (1 : Int32)) dX10_owed_94 rfl (by decide) (by decide) ?_
            refine r_goto (tgt := 16) dX10_owed_97 (by decide) ?_
            refine r_loc (L' := [(0, .ref E.2.2), (1, .int l1), (2, .long ((l2 + (0 : Int64)) - (Int32.toInt64 (σ.2.2 24 (Int32.toNatClampNeg l4))))), (4, .int (l4 + (1 : Int32)))]) [2, 3, 1, 0] rfl ?_
            exact ih σ  l1 ((l2 + (0 : Int64)) - (Int32.toInt64 (σ.2.2 24 (Int32.toNatClampNeg l4)))) (l4 + (1 : Int32)) (by exact i0) (by exact (Ct.up (by decide) i0.ns i1 (by with_reducible assumption)).2.1) (by have u := (Ct.up (by decide) i0.ns i1 (by with_reducible assumption)).2.2; omega) (by rw [f_X10_owed_L16, if_neg c2, if_neg c3, if_neg c4, if_pos c5] at hK; exact hK)
        · refine r_aload_n dX10_owed_54 rfl ?_
          refine m_get dX10_owed_55 fl_RX10_68 rfl ?_
          refine r_iload dX10_owed_58 rfl ?_
          refine m_iald (k := 24) (N := 40) hE (by decide) rfl rfl dX10_owed_60 (by with_reducible first | assumption | exact i0.sb _ | exact (Ct.up (by decide) i0.ns i1 (by with_reducible assumption)).1) ?_
          refine r_i2l dX10_owed_61 ?_
          refine r_goto (tgt := 66) dX10_owed_62 (by decide) ?_
          refine r_ladd dX10_owed_66 ?_
          refine r_lstore_n dX10_owed_67 (by decide) ?_
          refine r_lload_n dX10_owed_68 rfl ?_
          refine r_aload_n dX10_owed_69 rfl ?_
          refine m_get dX10_owed_70 fl_RX10_62 rfl ?_
          refine r_iload dX10_owed_73 rfl ?_
          refine m_iald (k := 22) (N := 40) hE (by decide) rfl rfl dX10_owed_75 (by with_reducible first | assumption | exact i0.sb _ | exact (Ct.up (by decide) i0.ns i1 (by with_reducible assumption)).1) ?_
          refine r_iload_n dX10_owed_76 rfl ?_
          refine r_icmp_ne (tgt := 91) dX10_owed_77 (by decide) (fun c6 => ?_) (fun c6 => ?_)
          · refine r_lconst (v := (0 : Int64)) dX10_owed_91 (by decide) ?_
            refine r_lsub dX10_owed_92 ?_
            refine r_lstore_n dX10_owed_93 (by decide) ?_
            refine r_iinc2 (w := (1 : Int32)) dX10_owed_94 rfl (by decide) (by decide) ?_
            refine r_goto (tgt := 16) dX10_owed_97 (by decide) ?_
            refine r_loc (L' := [(0, .ref E.2.2), (1, .int l1), (2, .long ((l2 + (Int32.toInt64 (σ.2.2 24 (Int32.toNatClampNeg l4)))) - (0 : Int64))), (4, .int (l4 + (1 : Int32)))]) [2, 3, 1, 0] rfl ?_
            exact ih σ  l1 ((l2 + (Int32.toInt64 (σ.2.2 24 (Int32.toNatClampNeg l4)))) - (0 : Int64)) (l4 + (1 : Int32)) (by exact i0) (by exact (Ct.up (by decide) i0.ns i1 (by with_reducible assumption)).2.1) (by have u := (Ct.up (by decide) i0.ns i1 (by with_reducible assumption)).2.2; omega) (by rw [f_X10_owed_L16, if_neg c2, if_neg c3, if_pos c4, if_neg c6] at hK; exact hK)
          · refine r_aload_n dX10_owed_80 rfl ?_
            refine m_get dX10_owed_81 fl_RX10_68 rfl ?_
            refine r_iload dX10_owed_84 rfl ?_
            refine m_iald (k := 24) (N := 40) hE (by decide) rfl rfl dX10_owed_86 (by with_reducible first | assumption | exact i0.sb _ | exact (Ct.up (by decide) i0.ns i1 (by with_reducible assumption)).1) ?_
            refine r_i2l dX10_owed_87 ?_
            refine r_goto (tgt := 92) dX10_owed_88 (by decide) ?_
            refine r_lsub dX10_owed_92 ?_
            refine r_lstore_n dX10_owed_93 (by decide) ?_
            refine r_iinc2 (w := (1 : Int32)) dX10_owed_94 rfl (by decide) (by decide) ?_
            refine r_goto (tgt := 16) dX10_owed_97 (by decide) ?_
            refine r_loc (L' := [(0, .ref E.2.2), (1, .int l1), (2, .long ((l2 + (Int32.toInt64 (σ.2.2 24 (Int32.toNatClampNeg l4)))) - (Int32.toInt64 (σ.2.2 24 (Int32.toNatClampNeg l4))))), (4, .int (l4 + (1 : Int32)))]) [2, 3, 1, 0] rfl ?_
            exact ih σ  l1 ((l2 + (Int32.toInt64 (σ.2.2 24 (Int32.toNatClampNeg l4)))) - (Int32.toInt64 (σ.2.2 24 (Int32.toNatClampNeg l4)))) (l4 + (1 : Int32)) (by exact i0) (by exact (Ct.up (by decide) i0.ns i1 (by with_reducible assumption)).2.1) (by have u := (Ct.up (by decide) i0.ns i1 (by with_reducible assumption)).2.2; omega) (by rw [f_X10_owed_L16, if_neg c2, if_neg c3, if_pos c4, if_pos c6] at hK; exact hK)
      · refine r_goto (tgt := 94) dX10_owed_39 (by decide) ?_
        refine r_iinc2 (w := (1 : Int32)) dX10_owed_94 rfl (by decide) (by decide) ?_
        refine r_goto (tgt := 16) dX10_owed_97 (by decide) ?_
        refine r_loc (L' := [(0, .ref E.2.2), (1, .int l1), (2, .long l2), (4, .int (l4 + (1 : Int32)))]) [1, 2, 3, 0] rfl ?_
        exact ih σ  l1 l2 (l4 + (1 : Int32)) (by exact i0) (by exact (Ct.up (by decide) i0.ns i1 (by with_reducible assumption)).2.1) (by have u := (Ct.up (by decide) i0.ns i1 (by with_reducible assumption)).2.2; omega) (by rw [f_X10_owed_L16, if_neg c2, if_pos c3] at hK; exact hK)
def f_X10_owed (σ : MSt) (p1 : Int32) : Int64 := (if (f_X10_isHand p1) = 0 then (-4611686018427387904 : Int64) else (f_X10_owed_L16 (42) σ p1 (0 : Int64) (0 : Int32)))
set_option maxRecDepth 100000 in
set_option maxHeartbeats 1000000 in
theorem ok_X10_owed {g : GC} {E : ME} {d : Nat} (hE : MEok E) (hd : 5 ≤ d) (σ : MSt) (p1 : Int32) (h0 : MInv σ) : MC g E d yX10_owed cX10_owed 5 (some FieldType.long) [.int p1] (fun v σ' => v = some (.long (f_X10_owed σ p1)) ∧ σ' = σ) σ := by
  refine AM.of2 (own := RX10) (nm := "owed") (L0 := [(0, .ref E.2.2), (1, .int p1)]) (by decide) rfl rfl (Nat.le_of_ble_eq_true rfl) rfl ?_
  refine r_iload_n dX10_owed_0 rfl ?_
  refine m_callS dX10_owed_1 mf_X10_isHand ml_RX10_406 (ok_X10_isHand (d := d - 1) (by omega) _) rfl rfl (Nat.le_of_ble_eq_true rfl) (by omega) ?_
  refine r_if_ne (tgt := 11) dX10_owed_4 (by decide) (fun c1 => ?_) (fun c1 => ?_)
  · refine r_lconst (v := (0 : Int64)) dX10_owed_11 (by decide) ?_
    refine r_lstore_n dX10_owed_12 (by decide) ?_
    refine r_iconst (v := (0 : Int32)) dX10_owed_13 (by decide) ?_
    refine r_istore dX10_owed_14 (by decide) ?_
    refine r_loc (L' := [(0, .ref E.2.2), (1, .int p1), (2, .long (0 : Int64)), (4, .int (0 : Int32))]) [2, 3, 1, 0] rfl ?_
    exact lp_X10_owed_16 hE (by omega) (42) σ p1 (0 : Int64) (0 : Int32) (by first | exact h0 | assumption) (by exact Ct.zero _) (by decide) ⟨by rw [f_X10_owed, if_neg c1], rfl⟩
  · refine r_ldc2 dX10_owed_7 kc_RX10_398 ?_
    refine r_lret dX10_owed_10 rfl ?_
    exact ⟨_, rfl, by rw [f_X10_owed, if_pos c1], rfl⟩
