def f_X10_gapOf_L4 : Nat → MSt → Int32 → Int32 → Int32 → Int32
  | 0, _, _, _, _ => 0
  | n + 1, σ, l1, l2, l3 => (if (σ.1 26) ≤ l3 then l2 else (if (σ.2.2 21 (Int32.toNatClampNeg l3)) = l1 then (if (f_X10_lastOf σ l1 l3) = (-1 : Int32) then (f_X10_gapOf_L4 n σ l1 (l2 + (0 : Int32)) (l3 + (1 : Int32))) else (if (σ.2.2 23 (Int32.toNatClampNeg (f_X10_lastOf σ l1 l3))) = (σ.2.2 22 (Int32.toNatClampNeg l3)) then (f_X10_gapOf_L4 n σ l1 (l2 + (0 : Int32)) (l3 + (1 : Int32))) else (f_X10_gapOf_L4 n σ l1 (l2 + (1 : Int32)) (l3 + (1 : Int32))))) else (f_X10_gapOf_L4 n σ l1 (l2 + (0 : Int32)) (l3 + (1 : Int32)))))
set_option maxRecDepth 100000 in
set_option maxHeartbeats 1000000 in
theorem lp_X10_gapOf_4 {g : GC} {E : ME} {d : Nat} {K : Option Value → MSt → Prop} (hE : MEok E) (hd : 1 ≤ d) : ∀ (fuel : Nat) (σ : MSt) (l1 : Int32) (l2 : Int32) (l3 : Int32), MInv σ → Ct l3 40 → 41 - l3.toNatClampNeg < fuel → K (some (.int (f_X10_gapOf_L4 fuel σ l1 l2 l3))) σ → MW g E cX10_gapOf 5 (some FieldType.int) "gapOf" d K 4 [(0, .ref E.2.2), (1, .int l1), (2, .int l2), (3, .int l3)] [] σ := by
  intro fuel
  induction fuel with
  | zero => intro σ l1 l2 l3 i0 i1 hm hK; exact absurd hm (Nat.not_lt_zero _)
  | succ n ih =>
    intro σ l1 l2 l3 i0 i1 hm hK
    refine r_iload_n dX10_gapOf_4 rfl ?_
    refine r_aload_n dX10_gapOf_5 rfl ?_
    refine m_get dX10_gapOf_6 fl_RX10_232 rfl ?_
    refine r_icmp_ge (tgt := 66) dX10_gapOf_9 (by decide) (fun c1 => ?_) (fun c1 => ?_)
    · refine r_iload_n dX10_gapOf_66 rfl ?_
      refine r_iret dX10_gapOf_67 rfl rfl ?_
      exact ⟨_, rfl, by rw [f_X10_gapOf_L4, if_pos c1] at hK; exact hK⟩
    · refine r_aload_n dX10_gapOf_12 rfl ?_
      refine r_iload_n dX10_gapOf_13 rfl ?_
      refine r_iload_n dX10_gapOf_14 rfl ?_
      refine m_callW dX10_gapOf_15 mf_X10_lastOf ml_RX10_235 (ok_X10_lastOf (d := d - 1) hE (by omega) _ _ _ (by with_reducible first | assumption | exact (Ct.up (by decide) i0.ns i1 (by with_reducible assumption)).1 | exact last_in i1 (by with_reducible assumption))) rfl rfl rfl (Nat.le_of_ble_eq_true rfl) (by omega) ?_
      refine r_istore dX10_gapOf_18 (by decide) ?_
      refine r_iload_n dX10_gapOf_20 rfl ?_
      refine r_aload_n dX10_gapOf_21 rfl ?_
      refine m_get dX10_gapOf_22 fl_RX10_59 rfl ?_
      refine r_iload_n dX10_gapOf_25 rfl ?_
      refine m_iald (k := 21) (N := 40) hE (by decide) rfl rfl dX10_gapOf_26 (by with_reducible first | assumption | exact (Ct.up (by decide) i0.ns i1 (by with_reducible assumption)).1 | exact last_in i1 (by with_reducible assumption)) ?_
      refine r_iload_n dX10_gapOf_27 rfl ?_
      refine r_icmp_ne (tgt := 57) dX10_gapOf_28 (by decide) (fun c2 => ?_) (fun c2 => ?_)
      · refine r_iconst (v := (0 : Int32)) dX10_gapOf_57 (by decide) ?_
        refine r_iadd dX10_gapOf_58 ?_
        refine r_istore_n dX10_gapOf_59 (by decide) ?_
        refine r_iinc2 (w := (1 : Int32)) dX10_gapOf_60 rfl (by decide) (by decide) ?_
        refine r_goto (tgt := 4) dX10_gapOf_63 (by decide) ?_
        refine r_loc (L' := [(0, .ref E.2.2), (1, .int l1), (2, .int (l2 + (0 : Int32))), (3, .int (l3 + (1 : Int32)))]) [3, 4, 1, 0] rfl ?_
        exact ih σ  l1 (l2 + (0 : Int32)) (l3 + (1 : Int32)) (by exact i0) (by exact (Ct.up (by decide) i0.ns i1 (by with_reducible assumption)).2.1) (by have u := (Ct.up (by decide) i0.ns i1 (by with_reducible assumption)).2.2; omega) (by rw [f_X10_gapOf_L4, if_neg c1, if_neg c2] at hK; exact hK)
      · refine r_iload dX10_gapOf_31 rfl ?_
        refine r_iconst (v := (-1 : Int32)) dX10_gapOf_33 (by decide) ?_
        refine r_icmp_eq (tgt := 57) dX10_gapOf_34 (by decide) (fun c3 => ?_) (fun c3 => ?_)
        · refine r_iconst (v := (0 : Int32)) dX10_gapOf_57 (by decide) ?_
          refine r_iadd dX10_gapOf_58 ?_
          refine r_istore_n dX10_gapOf_59 (by decide) ?_
          refine r_iinc2 (w := (1 : Int32)) dX10_gapOf_60 rfl (by decide) (by decide) ?_
          refine r_goto (tgt := 4) dX10_gapOf_63 (by decide) ?_
          refine r_loc (L' := [(0, .ref E.2.2), (1, .int l1), (2, .int (l2 + (0 : Int32))), (3, .int (l3 + (1 : Int32)))]) [3, 4, 1, 0] rfl ?_
          exact ih σ  l1 (l2 + (0 : Int32)) (l3 + (1 : Int32)) (by exact i0) (by exact (Ct.up (by decide) i0.ns i1 (by with_reducible assumption)).2.1) (by have u := (Ct.up (by decide) i0.ns i1 (by with_reducible assumption)).2.2; omega) (by rw [f_X10_gapOf_L4, if_neg c1, if_pos c2, if_pos c3] at hK; exact hK)
        · refine r_aload_n dX10_gapOf_37 rfl ?_
          refine m_get dX10_gapOf_38 fl_RX10_65 rfl ?_
          refine r_iload dX10_gapOf_41 rfl ?_
          refine m_iald (k := 23) (N := 40) hE (by decide) rfl rfl dX10_gapOf_43 (by with_reducible first | assumption | exact (Ct.up (by decide) i0.ns i1 (by with_reducible assumption)).1 | exact last_in i1 (by with_reducible assumption)) ?_
          refine r_aload_n dX10_gapOf_44 rfl ?_
          refine m_get dX10_gapOf_45 fl_RX10_62 rfl ?_
          refine r_iload_n dX10_gapOf_48 rfl ?_
          refine m_iald (k := 22) (N := 40) hE (by decide) rfl rfl dX10_gapOf_49 (by with_reducible first | assumption | exact (Ct.up (by decide) i0.ns i1 (by with_reducible assumption)).1 | exact last_in i1 (by with_reducible assumption)) ?_
          refine r_icmp_eq (tgt := 57) dX10_gapOf_50 (by decide) (fun c4 => ?_) (fun c4 => ?_)
          · refine r_iconst (v := (0 : Int32)) dX10_gapOf_57 (by decide) ?_
            refine r_iadd dX10_gapOf_58 ?_
            refine r_istore_n dX10_gapOf_59 (by decide) ?_
            refine r_iinc2 (w := (1 : Int32)) dX10_gapOf_60 rfl (by decide) (by decide) ?_
            refine r_goto (tgt := 4) dX10_gapOf_63 (by decide) ?_
            refine r_loc (L' := [(0, .ref E.2.2), (1, .int l1), (2, .int (l2 + (0 : Int32))), (3, .int (l3 + (1 : Int32)))]) [3, 4, 1, 0] rfl ?_
            exact ih σ  l1 (l2 + (0 : Int32)) (l3 + (1 : Int32)) (by exact i0) (by exact (Ct.up (by decide) i0.ns i1 (by with_reducible assumption)).2.1) (by have u := (Ct.up (by decide) i0.ns i1 (by with_reducible assumption)).2.2; omega) (by rw [f_X10_gapOf_L4, if_neg c1, if_pos c2, if_neg c3, if_pos c4] at hK; exact hK)
          · refine r_iconst (v := (1 : Int32)) dX10_gapOf_53 (by decide) ?_
            refine r_goto (tgt := 58) dX10_gapOf_54 (by decide) ?_
            refine r_iadd dX10_gapOf_58 ?_
            refine r_istore_n dX10_gapOf_59 (by decide) ?_
            refine r_iinc2 (w := (1 : Int32)) dX10_gapOf_60 rfl (by decide) (by decide) ?_
            refine r_goto (tgt := 4) dX10_gapOf_63 (by decide) ?_
            refine r_loc (L' := [(0, .ref E.2.2), (1, .int l1), (2, .int (l2 + (1 : Int32))), (3, .int (l3 + (1 : Int32)))]) [3, 4, 1, 0] rfl ?_
            exact ih σ  l1 (l2 + (1 : Int32)) (l3 + (1 : Int32)) (by exact i0) (by exact (Ct.up (by decide) i0.ns i1 (by with_reducible assumption)).2.1) (by have u := (Ct.up (by decide) i0.ns i1 (by with_reducible assumption)).2.2; omega) (by rw [f_X10_gapOf_L4, if_neg c1, if_pos c2, if_neg c3, if_neg c4] at hK; exact hK)
def f_X10_gapOf (σ : MSt) (p1 : Int32) : Int32 := (f_X10_gapOf_L4 (42) σ p1 (0 : Int32) (0 : Int32))
set_option maxRecDepth 100000 in
set_option maxHeartbeats 1000000 in
theorem ok_X10_gapOf {g : GC} {E : ME} {d : Nat} (hE : MEok E) (hd : 1 ≤ d) (σ : MSt) (p1 : Int32) (h0 : MInv σ) : MC g E d yX10_gapOf cX10_gapOf 5 (some FieldType.int) [.int p1] (fun v σ' => v = some (.int (f_X10_gapOf σ p1)) ∧ σ' = σ) σ := by
  refine AM.of2 (own := RX10) (nm := "gapOf") (L0 := [(0, .ref E.2.2), (1, .int p1)]) (by decide) rfl rfl (Nat.le_of_ble_eq_true rfl) rfl ?_
  refine r_iconst (v := (0 : Int32)) dX10_gapOf_0 (by decide) ?_
  refine r_istore_n dX10_gapOf_1 (by decide) ?_
  refine r_iconst (v := (0 : Int32)) dX10_gapOf_2 (by decide) ?_
  refine r_istore_n dX10_gapOf_3 (by decide) ?_
  refine r_loc (L' := [(0, .ref E.2.2), (1, .int p1), (2, .int (0 : Int32)), (3, .int (0 : Int32))]) [2, 3, 1, 0] rfl ?_
  exact lp_X10_gapOf_4 hE (by omega) (42) σ p1 (0 : Int32) (0 : Int32) (by exact h0) (by exact Ct.zero _) (by decide) ⟨by rw [f_X10_gapOf], rfl⟩

def f_X10_ownerOf (σ : MSt) (p1 : Int32) : Int32 := (if (f_X10_lastOf σ p1 (σ.1 26)) = (-1 : Int32) then (-1 : Int32) else (σ.2.2 23 (Int32.toNatClampNeg (f_X10_lastOf σ p1 (σ.1 26)))))
set_option maxRecDepth 100000 in
set_option maxHeartbeats 1000000 in
theorem ok_X10_ownerOf {g : GC} {E : ME} {d : Nat} (hE : MEok E) (hd : 1 ≤ d) (σ : MSt) (p1 : Int32) (h0 : MInv σ) : MC g E d yX10_ownerOf cX10_ownerOf 3 (some FieldType.int) [.int p1] (fun v σ' => v = some (.int (f_X10_ownerOf σ p1)) ∧ σ' = σ) σ := by
  refine AM.of2 (own := RX10) (nm := "ownerOf") (L0 := [(0, .ref E.2.2), (1, .int p1)]) (by decide) rfl rfl (Nat.le_of_ble_eq_true rfl) rfl ?_
  refine r_aload_n dX10_ownerOf_0 rfl ?_
  refine r_iload_n dX10_ownerOf_1 rfl ?_
  refine r_aload_n dX10_ownerOf_2 rfl ?_
  refine m_get dX10_ownerOf_3 fl_RX10_232 rfl ?_
  refine m_callW dX10_ownerOf_6 mf_X10_lastOf ml_RX10_235 (ok_X10_lastOf (d := d - 1) hE (by omega) _ _ _ (by with_reducible first | exact h0.ns | exact last_in h0.ns (by with_reducible assumption))) rfl rfl rfl (Nat.le_of_ble_eq_true rfl) (by omega) ?_
  refine r_istore_n dX10_ownerOf_9 (by decide) ?_
  refine r_iload_n dX10_ownerOf_10 rfl ?_
  refine r_iconst (v := (-1 : Int32)) dX10_ownerOf_11 (by decide) ?_
  refine r_icmp_ne (tgt := 19) dX10_ownerOf_12 (by decide) (fun c1 => ?_) (fun c1 => ?_)
  · refine r_aload_n dX10_ownerOf_19 rfl ?_
    refine m_get dX10_ownerOf_20 fl_RX10_65 rfl ?_
    refine r_iload_n dX10_ownerOf_23 rfl ?_
    refine m_iald (k := 23) (N := 40) hE (by decide) rfl rfl dX10_ownerOf_24 (by with_reducible first | exact h0.ns | exact last_in h0.ns (by with_reducible assumption)) ?_
    refine r_iret dX10_ownerOf_25 rfl rfl ?_
    exact ⟨_, rfl, by rw [f_X10_ownerOf, if_neg c1], rfl⟩
  · refine r_iconst (v := (-1 : Int32)) dX10_ownerOf_15 (by decide) ?_
    refine r_goto (tgt := 25) dX10_ownerOf_16 (by decide) ?_
    refine r_iret dX10_ownerOf_25 rfl rfl ?_
    exact ⟨_, rfl, by rw [f_X10_ownerOf, if_pos c1], rfl⟩
