def f_X10_mix_L49 : Nat → MSt → Int32 → Int32 → Int32 → Int32 → Int32 → Int32 → Int32
  | 0, _, _, _, _, _, _, _ => 0
  | n + 1, σ, l1, l2, l3, l4, l5, l6 => (if (11 : Int32) ≤ l6 then (if l4 = 0 then l5 else (f_X10_farOf σ l1 l2 l3 l5)) else (if (f_X10_farOf σ l1 l2 l3 l5) ≤ (f_X10_farOf σ l1 l2 l3 l6) then (f_X10_mix_L49 n σ l1 l2 l3 l4 l5 (l6 + (1 : Int32))) else (f_X10_mix_L49 n σ l1 l2 l3 l4 l6 (l6 + (1 : Int32)))))
set_option maxRecDepth 100000 in
set_option maxHeartbeats 1000000 in
theorem lp_X10_mix_49 {g : GC} {E : ME} {d : Nat} {K : Option Value → MSt → Prop} (hE : MEok E) (hd : 2 ≤ d) : ∀ (fuel : Nat) (σ : MSt) (l1 : Int32) (l2 : Int32) (l3 : Int32) (l4 : Int32) (l5 : Int32) (l6 : Int32), vp_in l1 8 → vp_in l2 8 → vp_in l3 8 → Ct l6 11 → 12 - l6.toNatClampNeg < fuel → K (some (.int (f_X10_mix_L49 fuel σ l1 l2 l3 l4 l5 l6))) σ → MW g E cX10_mix 7 (some FieldType.int) "mix" d K 49 [(0, .ref E.2.2), (1, .int l1), (2, .int l2), (3, .int l3), (4, .int l4), (5, .int l5), (6, .int l6)] [] σ := by
  intro fuel
  induction fuel with
  | zero => intro σ l1 l2 l3 l4 l5 l6 i0 i1 i2 i3 hm hK; exact absurd hm (Nat.not_lt_zero _)
  | succ n ih =>
    intro σ l1 l2 l3 l4 l5 l6 i0 i1 i2 i3 hm hK
    refine r_iload dX10_mix_49 rfl ?_
    refine r_bipush (v := (11 : Int32)) dX10_mix_51 (by decide) ?_
    refine r_icmp_ge (tgt := 92) dX10_mix_53 (by decide) (fun c6 => ?_) (fun c6 => ?_)
    · refine r_iload dX10_mix_92 rfl ?_
      refine r_if_ne (tgt := 102) dX10_mix_94 (by decide) (fun c7 => ?_) (fun c7 => ?_)
      · refine r_aload_n dX10_mix_102 rfl ?_
        refine r_iload_n dX10_mix_103 rfl ?_
        refine r_iload_n dX10_mix_104 rfl ?_
        refine r_iload_n dX10_mix_105 rfl ?_
        refine r_iload dX10_mix_106 rfl ?_
        refine m_callW dX10_mix_108 mf_X10_farOf ml_RX10_415 (ok_X10_farOf (d := d - 1) hE (by omega) _ _ _ _ _ (by with_reducible first | assumption | exact isWine_in h0 (by with_reducible assumption)) (by with_reducible first | assumption | exact isWine_in h0 (by with_reducible assumption)) (by with_reducible first | assumption | exact isWine_in h0 (by with_reducible assumption))) rfl rfl rfl (Nat.le_of_ble_eq_true rfl) (by omega) ?_
        refine r_iret dX10_mix_111 rfl rfl ?_
        exact ⟨_, rfl, by rw [f_X10_mix_L49, if_pos c6, if_neg c7] at hK; exact hK⟩
      · refine r_iload dX10_mix_97 rfl ?_
        refine r_goto (tgt := 111) dX10_mix_99 (by decide) ?_
        refine r_iret dX10_mix_111 rfl rfl ?_
        exact ⟨_, rfl, by rw [f_X10_mix_L49, if_pos c6, if_pos c7] at hK; exact hK⟩
    · refine r_aload_n dX10_mix_56 rfl ?_
      refine r_iload_n dX10_mix_57 rfl ?_
      refine r_iload_n dX10_mix_58 rfl ?_
      refine r_iload_n dX10_mix_59 rfl ?_
      refine r_iload dX10_mix_60 rfl ?_
      refine m_callW dX10_mix_62 mf_X10_farOf ml_RX10_415 (ok_X10_farOf (d := d - 1) hE (by omega) _ _ _ _ _ (by with_reducible first | assumption | exact isWine_in h0 (by with_reducible assumption)) (by with_reducible first | assumption | exact isWine_in h0 (by with_reducible assumption)) (by with_reducible first | assumption | exact isWine_in h0 (by with_reducible assumption))) rfl rfl rfl (Nat.le_of_ble_eq_true rfl) (by omega) ?_
      refine r_aload_n dX10_mix_65 rfl ?_
      refine r_iload_n dX10_mix_66 rfl ?_
      refine r_iload_n dX10_mix_67 rfl ?_
      refine r_iload_n dX10_mix_68 rfl ?_
      refine r_iload dX10_mix_69 rfl ?_
      refine m_callW dX10_mix_71 mf_X10_farOf ml_RX10_415 (ok_X10_farOf (d := d - 1) hE (by omega) _ _ _ _ _ (by with_reducible first | assumption | exact isWine_in h0 (by with_reducible assumption)) (by with_reducible first | assumption | exact isWine_in h0 (by with_reducible assumption)) (by with_reducible first | assumption | exact isWine_in h0 (by with_reducible assumption))) rfl rfl rfl (Nat.le_of_ble_eq_true rfl) (by omega) ?_
      refine r_icmp_ge (tgt := 82) dX10_mix_74 (by decide) (fun c8 => ?_) (fun c8 => ?_)
      · refine r_iload dX10_mix_82 rfl ?_
        refine r_istore dX10_mix_84 (by decide) ?_
        refine r_iinc2 (w := (1 : Int32)) dX10_mix_86 rfl (by decide) (by decide) ?_
        refine r_goto (tgt := 49) dX10_mix_89 (by decide) ?_
        refine r_loc (L' := [(0, .ref E.2.2), (1, .int l1), (2, .int l2), (3, .int l3), (4, .int l4), (5, .int l5), (6, .int (l6 + (1 : Int32)))]) [2, 3, 4, 5, 6, 1, 0] rfl ?_
        exact ih σ  l1 l2 l3 l4 l5 (l6 + (1 : Int32)) (by exact i0) (by exact i1) (by exact i2) (by exact (Ct.up (by decide) ct11 i3 (by with_reducible assumption)).2.1) (by have u := (Ct.up (by decide) ct11 i3 (by with_reducible assumption)).2.2; omega) (by rw [f_X10_mix_L49, if_neg c6, if_pos c8] at hK; exact hK)
      · refine r_iload dX10_mix_77 rfl ?_
        refine r_goto (tgt := 84) dX10_mix_79 (by decide) ?_
        refine r_istore dX10_mix_84 (by decide) ?_
        refine r_iinc2 (w := (1 : Int32)) dX10_mix_86 rfl (by decide) (by decide) ?_
        refine r_goto (tgt := 49) dX10_mix_89 (by decide) ?_
        refine r_loc (L' := [(0, .ref E.2.2), (1, .int l1), (2, .int l2), (3, .int l3), (4, .int l4), (5, .int l6), (6, .int (l6 + (1 : Int32)))]) [2, 3, 4, 5, 6, 1, 0] rfl ?_
        exact ih σ  l1 l2 l3 l4 l6 (l6 + (1 : Int32)) (by exact i0) (by exact i1) (by exact i2) (by exact (Ct.up (by decide) ct11 i3 (by with_reducible assumption)).2.1) (by have u := (Ct.up (by decide) ct11 i3 (by with_reducible assumption)).2.2; omega) (by rw [f_X10_mix_L49, if_neg c6, if_neg c8] at hK; exact hK)
def f_X10_mix (σ : MSt) (p1 : Int32) (p2 : Int32) (p3 : Int32) (p4 : Int32) : Int32 := (if (f_X10_isWine σ p1) = 0 then (-2 : Int32) else (if (f_X10_isWine σ p2) = 0 then (-2 : Int32) else (if p1 = p2 then (-2 : Int32) else (if (f_X10_isWine σ p3) = 0 then (-2 : Int32) else (if (f_X10_in (Int32.toInt64 p4) (0 : Int64) (1 : Int64)) = 0 then (-2 : Int32) else (f_X10_mix_L49 (13) σ p1 p2 p3 p4 (0 : Int32) (1 : Int32)))))))
set_option maxRecDepth 100000 in
set_option maxHeartbeats 1000000 in
theorem ok_X10_mix {g : GC} {E : ME} {d : Nat} (hE : MEok E) (hd : 2 ≤ d) (σ : MSt) (p1 : Int32) (p2 : Int32) (p3 : Int32) (p4 : Int32) (h0 : MInv σ) : MC g E d yX10_mix cX10_mix 7 (some FieldType.int) [.int p1, .int p2, .int p3, .int p4] (fun v σ' => v = some (.int (f_X10_mix σ p1 p2 p3 p4)) ∧ σ' = σ) σ := by
  refine AM.of2 (own := RX10) (nm := "mix") (L0 := [(0, .ref E.2.2), (1, .int p1), (2, .int p2), (3, .int p3), (4, .int p4)]) (by decide) rfl rfl (Nat.le_of_ble_eq_true rfl) rfl ?_
  refine r_aload_n dX10_mix_0 rfl ?_
  refine r_iload_n dX10_mix_1 rfl ?_
  refine m_callW dX10_mix_2 mf_X10_isWine ml_RX10_165 (ok_X10_isWine (d := d - 1) hE (by omega) _ _) rfl rfl rfl (Nat.le_of_ble_eq_true rfl) (by omega) ?_
  refine r_if_eq (tgt := 40) dX10_mix_5 (by decide) (fun c1 => ?_) (fun c1 => ?_)
  · refine r_bipush (v := (-2 : Int32)) dX10_mix_40 (by decide) ?_
    refine r_iret dX10_mix_42 rfl rfl ?_
    exact ⟨_, rfl, by rw [f_X10_mix, if_pos c1], rfl⟩
  · refine r_aload_n dX10_mix_8 rfl ?_
    refine r_iload_n dX10_mix_9 rfl ?_
    refine m_callW dX10_mix_10 mf_X10_isWine ml_RX10_165 (ok_X10_isWine (d := d - 1) hE (by omega) _ _) rfl rfl rfl (Nat.le_of_ble_eq_true rfl) (by omega) ?_
    refine r_if_eq (tgt := 40) dX10_mix_13 (by decide) (fun c2 => ?_) (fun c2 => ?_)
    · refine r_bipush (v := (-2 : Int32)) dX10_mix_40 (by decide) ?_
      refine r_iret dX10_mix_42 rfl rfl ?_
      exact ⟨_, rfl, by rw [f_X10_mix, if_neg c1, if_pos c2], rfl⟩
    · refine r_iload_n dX10_mix_16 rfl ?_
      refine r_iload_n dX10_mix_17 rfl ?_
      refine r_icmp_eq (tgt := 40) dX10_mix_18 (by decide) (fun c3 => ?_) (fun c3 => ?_)
      · refine r_bipush (v := (-2 : Int32)) dX10_mix_40 (by decide) ?_
        refine r_iret dX10_mix_42 rfl rfl ?_
        exact ⟨_, rfl, by rw [f_X10_mix, if_neg c1, if_neg c2, if_pos c3], rfl⟩
      · refine r_aload_n dX10_mix_21 rfl ?_
        refine r_iload_n dX10_mix_22 rfl ?_
        refine m_callW dX10_mix_23 mf_X10_isWine ml_RX10_165 (ok_X10_isWine (d := d - 1) hE (by omega) _ _) rfl rfl rfl (Nat.le_of_ble_eq_true rfl) (by omega) ?_
        refine r_if_eq (tgt := 40) dX10_mix_26 (by decide) (fun c4 => ?_) (fun c4 => ?_)
        · refine r_bipush (v := (-2 : Int32)) dX10_mix_40 (by decide) ?_
          refine r_iret dX10_mix_42 rfl rfl ?_
          exact ⟨_, rfl, by rw [f_X10_mix, if_neg c1, if_neg c2, if_neg c3, if_pos c4], rfl⟩
        · refine r_iload dX10_mix_29 rfl ?_
          refine r_i2l dX10_mix_31 ?_
          refine r_lconst (v := (0 : Int64)) dX10_mix_32 (by decide) ?_
          refine r_lconst (v := (1 : Int64)) dX10_mix_33 (by decide) ?_
          refine m_callS dX10_mix_34 mf_X10_in ml_RX10_149 (ok_X10_in (d := d - 1) (by omega) _ _ _) rfl rfl (Nat.le_of_ble_eq_true rfl) (by omega) ?_
          refine r_if_ne (tgt := 43) dX10_mix_37 (by decide) (fun c5 => ?_) (fun c5 => ?_)
          · refine r_iconst (v := (0 : Int32)) dX10_mix_43 (by decide) ?_
            refine r_istore dX10_mix_44 (by decide) ?_
            refine r_iconst (v := (1 : Int32)) dX10_mix_46 (by decide) ?_
            refine r_istore dX10_mix_47 (by decide) ?_
            refine r_loc (L' := [(0, .ref E.2.2), (1, .int p1), (2, .int p2), (3, .int p3), (4, .int p4), (5, .int (0 : Int32)), (6, .int (1 : Int32))]) [2, 3, 4, 5, 6, 1, 0] rfl ?_
            exact lp_X10_mix_49 hE (by omega) (13) σ p1 p2 p3 p4 (0 : Int32) (1 : Int32) (by exact isWine_in h0 (by with_reducible assumption)) (by exact isWine_in h0 (by with_reducible assumption)) (by exact isWine_in h0 (by with_reducible assumption)) (by exact ⟨1, by decide, rfl⟩) (by decide) ⟨by rw [f_X10_mix, if_neg c1, if_neg c2, if_neg c3, if_neg c4, if_neg c5], rfl⟩
          · refine r_bipush (v := (-2 : Int32)) dX10_mix_40 (by decide) ?_
            refine r_iret dX10_mix_42 rfl rfl ?_
            exact ⟨_, rfl, by rw [f_X10_mix, if_neg c1, if_neg c2, if_neg c3, if_neg c4, if_pos c5], rfl⟩
