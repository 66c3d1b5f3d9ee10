def f_X10_farOf_L6 : Nat → MSt → Int32 → Int32 → Int32 → Int32 → Int32 → Int32 → Int32
  | 0, _, _, _, _, _, _, _ => 0
  | n + 1, σ, l1, l2, l3, l4, l5, l6 => (if (3 : Int32) ≤ l6 then l5 else (if 0 ≤ ((((l4 * (f_X10_tasteOf σ l1 l6)) + (((10 : Int32) - l4) * (f_X10_tasteOf σ l2 l6))) / (10 : Int32)) - (f_X10_tasteOf σ l3 l6)) then (f_X10_farOf_L6 n σ l1 l2 l3 l4 (l5 + ((((l4 * (f_X10_tasteOf σ l1 l6)) + (((10 : Int32) - l4) * (f_X10_tasteOf σ l2 l6))) / (10 : Int32)) - (f_X10_tasteOf σ l3 l6))) (l6 + (1 : Int32))) else (f_X10_farOf_L6 n σ l1 l2 l3 l4 (l5 + (-((((l4 * (f_X10_tasteOf σ l1 l6)) + (((10 : Int32) - l4) * (f_X10_tasteOf σ l2 l6))) / (10 : Int32)) - (f_X10_tasteOf σ l3 l6)))) (l6 + (1 : Int32)))))
set_option maxRecDepth 100000 in
set_option maxHeartbeats 1000000 in
theorem lp_X10_farOf_6 {g : GC} {E : ME} {d : Nat} {K : Option Value → MSt → Prop} (hE : MEok E) (hd : 1 ≤ d) : ∀ (fuel : Nat) (σ : MSt) (l1 : Int32) (l2 : Int32) (l3 : Int32) (l4 : Int32) (l5 : Int32) (l6 : Int32), vp_in l1 8 → vp_in l2 8 → vp_in l3 8 → Ct l6 3 → 4 - l6.toNatClampNeg < fuel → K (some (.int (f_X10_farOf_L6 fuel σ l1 l2 l3 l4 l5 l6))) σ → MW g E cX10_farOf 8 (some FieldType.int) "farOf" d K 6 [(0, .ref E.2.2), (1, .int l1), (2, .int l2), (3, .int l3), (4, .int l4), (5, .int l5), (6, .int l6)] [] σ := by
  intro fuel
  induction fuel with
  | zero => intro σ l1 l2 l3 l4 l5 l6 i0 i1 i2 i3 hm hK; exact absurd hm (Nat.not_lt_zero _)
  | succ n ih =>
    intro σ l1 l2 l3 l4 l5 l6 i0 i1 i2 i3 hm hK
    refine r_iload dX10_farOf_6 rfl ?_
    refine r_iconst (v := (3 : Int32)) dX10_farOf_8 (by decide) ?_
    refine r_icmp_ge (tgt := 73) dX10_farOf_9 (by decide) (fun c1 => ?_) (fun c1 => ?_)
    · refine r_iload dX10_farOf_73 rfl ?_
      refine r_iret dX10_farOf_75 rfl rfl ?_
      exact ⟨_, rfl, by rw [f_X10_farOf_L6, if_pos c1] at hK; exact hK⟩
    · refine r_iload dX10_farOf_12 rfl ?_
      refine r_aload_n dX10_farOf_14 rfl ?_
      refine r_iload_n dX10_farOf_15 rfl ?_
      refine r_iload dX10_farOf_16 rfl ?_
      refine m_callW dX10_farOf_18 mf_X10_tasteOf ml_RX10_183 (ok_X10_tasteOf (d := d - 1) hE (by omega) _ _ _ (by with_reducible first | assumption)) rfl rfl rfl (Nat.le_of_ble_eq_true rfl) (by omega) ?_
      refine r_imul dX10_farOf_21 ?_
      refine r_bipush (v := (10 : Int32)) dX10_farOf_22 (by decide) ?_
      refine r_iload dX10_farOf_24 rfl ?_
      refine r_isub dX10_farOf_26 ?_
      refine r_aload_n dX10_farOf_27 rfl ?_
      refine r_iload_n dX10_farOf_28 rfl ?_
      refine r_iload dX10_farOf_29 rfl ?_
      refine m_callW dX10_farOf_31 mf_X10_tasteOf ml_RX10_183 (ok_X10_tasteOf (d := d - 1) hE (by omega) _ _ _ (by with_reducible first | assumption)) rfl rfl rfl (Nat.le_of_ble_eq_true rfl) (by omega) ?_
      refine r_imul dX10_farOf_34 ?_
      refine r_iadd dX10_farOf_35 ?_
      refine r_bipush (v := (10 : Int32)) dX10_farOf_36 (by decide) ?_
      refine r_idiv dX10_farOf_38 (by decide) ?_
      refine r_aload_n dX10_farOf_39 rfl ?_
      refine r_iload_n dX10_farOf_40 rfl ?_
      refine r_iload dX10_farOf_41 rfl ?_
      refine m_callW dX10_farOf_43 mf_X10_tasteOf ml_RX10_183 (ok_X10_tasteOf (d := d - 1) hE (by omega) _ _ _ (by with_reducible first | assumption)) rfl rfl rfl (Nat.le_of_ble_eq_true rfl) (by omega) ?_
      refine r_isub dX10_farOf_46 ?_
      refine r_istore dX10_farOf_47 (by decide) ?_
      refine r_iload dX10_farOf_49 rfl ?_
      refine r_iload dX10_farOf_51 rfl ?_
      refine r_if_ge (tgt := 62) dX10_farOf_53 (by decide) (fun c2 => ?_) (fun c2 => ?_)
      · refine r_iload dX10_farOf_62 rfl ?_
        refine r_iadd dX10_farOf_64 ?_
        refine r_istore dX10_farOf_65 (by decide) ?_
        refine r_iinc2 (w := (1 : Int32)) dX10_farOf_67 rfl (by decide) (by decide) ?_
        refine r_goto (tgt := 6) dX10_farOf_70 (by decide) ?_
        refine r_loc (L' := [(0, .ref E.2.2), (1, .int l1), (2, .int l2), (3, .int l3), (4, .int l4), (5, .int (l5 + ((((l4 * (f_X10_tasteOf σ l1 l6)) + (((10 : Int32) - l4) * (f_X10_tasteOf σ l2 l6))) / (10 : Int32)) - (f_X10_tasteOf σ l3 l6)))), (6, .int (l6 + (1 : Int32)))]) [3, 4, 5, 6, 7, 1, 0] rfl ?_
        exact ih σ  l1 l2 l3 l4 (l5 + ((((l4 * (f_X10_tasteOf σ l1 l6)) + (((10 : Int32) - l4) * (f_X10_tasteOf σ l2 l6))) / (10 : Int32)) - (f_X10_tasteOf σ l3 l6))) (l6 + (1 : Int32)) (by exact i0) (by exact i1) (by exact i2) (by exact (Ct.up (by decide) ct3 i3 (by with_reducible assumption)).2.1) (by have u := (Ct.up (by decide) ct3 i3 (by with_reducible assumption)).2.2; omega) (by rw [f_X10_farOf_L6, if_neg c1, if_pos c2] at hK; exact hK)
      · refine r_iload dX10_farOf_56 rfl ?_
        refine r_ineg dX10_farOf_58 ?_
        refine r_goto (tgt := 64) dX10_farOf_59 (by decide) ?_
        refine r_iadd dX10_farOf_64 ?_
        refine r_istore dX10_farOf_65 (by decide) ?_
        refine r_iinc2 (w := (1 : Int32)) dX10_farOf_67 rfl (by decide) (by decide) ?_
        refine r_goto (tgt := 6) dX10_farOf_70 (by decide) ?_
        refine r_loc (L' := [(0, .ref E.2.2), (1, .int l1), (2, .int l2), (3, .int l3), (4, .int l4), (5, .int (l5 + (-((((l4 * (f_X10_tasteOf σ l1 l6)) + (((10 : Int32) - l4) * (f_X10_tasteOf σ l2 l6))) / (10 : Int32)) - (f_X10_tasteOf σ l3 l6))))), (6, .int (l6 + (1 : Int32)))]) [3, 4, 5, 6, 7, 1, 0] rfl ?_
        exact ih σ  l1 l2 l3 l4 (l5 + (-((((l4 * (f_X10_tasteOf σ l1 l6)) + (((10 : Int32) - l4) * (f_X10_tasteOf σ l2 l6))) / (10 : Int32)) - (f_X10_tasteOf σ l3 l6)))) (l6 + (1 : Int32)) (by exact i0) (by exact i1) (by exact i2) (by exact (Ct.up (by decide) ct3 i3 (by with_reducible assumption)).2.1) (by have u := (Ct.up (by decide) ct3 i3 (by with_reducible assumption)).2.2; omega) (by rw [f_X10_farOf_L6, if_neg c1, if_neg c2] at hK; exact hK)
def f_X10_farOf (σ : MSt) (p1 : Int32) (p2 : Int32) (p3 : Int32) (p4 : Int32) : Int32 := (f_X10_farOf_L6 (5) σ p1 p2 p3 p4 (0 : Int32) (0 : Int32))
set_option maxRecDepth 100000 in
set_option maxHeartbeats 1000000 in
theorem ok_X10_farOf {g : GC} {E : ME} {d : Nat} (hE : MEok E) (hd : 1 ≤ d) (σ : MSt) (p1 : Int32) (p2 : Int32) (p3 : Int32) (p4 : Int32) (h0 : vp_in p1 8) (h1 : vp_in p2 8) (h2 : vp_in p3 8) : MC g E d yX10_farOf cX10_farOf 8 (some FieldType.int) [.int p1, .int p2, .int p3, .int p4] (fun v σ' => v = some (.int (f_X10_farOf σ p1 p2 p3 p4)) ∧ σ' = σ) σ := by
  refine AM.of2 (own := RX10) (nm := "farOf") (L0 := [(0, .ref E.2.2), (1, .int p1), (2, .int p2), (3, .int p3), (4, .int p4)]) (by decide) rfl rfl (Nat.le_of_ble_eq_true rfl) rfl ?_
  refine r_iconst (v := (0 : Int32)) dX10_farOf_0 (by decide) ?_
  refine r_istore dX10_farOf_1 (by decide) ?_
  refine r_iconst (v := (0 : Int32)) dX10_farOf_3 (by decide) ?_
  refine r_istore dX10_farOf_4 (by decide) ?_
  refine r_loc (L' := [(0, .ref E.2.2), (1, .int p1), (2, .int p2), (3, .int p3), (4, .int p4), (5, .int (0 : Int32)), (6, .int (0 : Int32))]) [2, 3, 4, 5, 6, 1, 0] rfl ?_
  exact lp_X10_farOf_6 hE (by omega) (5) σ p1 p2 p3 p4 (0 : Int32) (0 : Int32) (by exact h0) (by exact h1) (by exact h2) (by exact Ct.zero _) (by decide) ⟨by rw [f_X10_farOf], rfl⟩
