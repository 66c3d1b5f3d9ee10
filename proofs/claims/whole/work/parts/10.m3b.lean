def f_X10_soldOf_L4 : Nat → MSt → Int32 → Int32 → Int32 → Int32
  | 0, _, _, _, _ => 0
  | n + 1, σ, l1, l2, l3 => (if (σ.1 20) ≤ l3 then l2 else (if (σ.2.2 17 (Int32.toNatClampNeg l3)) = l1 then (if (f_X10_ownerOf σ l3) = (-1 : Int32) then (f_X10_soldOf_L4 n σ l1 (l2 + (0 : Int32)) (l3 + (1 : Int32))) else (f_X10_soldOf_L4 n σ l1 (l2 + (1 : Int32)) (l3 + (1 : Int32)))) else (f_X10_soldOf_L4 n σ l1 (l2 + (0 : Int32)) (l3 + (1 : Int32)))))
set_option maxRecDepth 100000 in
set_option maxHeartbeats 1000000 in
theorem lp_X10_soldOf_4 {g : GC} {E : ME} {d : Nat} {K : Option Value → MSt → Prop} (hE : MEok E) (hd : 2 ≤ d) : ∀ (fuel : Nat) (σ : MSt) (l1 : Int32) (l2 : Int32) (l3 : Int32), MInv σ → Ct l3 24 → 25 - l3.toNatClampNeg < fuel → K (some (.int (f_X10_soldOf_L4 fuel σ l1 l2 l3))) σ → MW g E cX10_soldOf 4 (some FieldType.int) "soldOf" d K 4 [(0, .ref E.2.2), (1, .int l1), (2, .int l2), (3, .int l3)] [] σ := by
  intro fuel
  induction fuel with
  | zero => intro σ l1 l2 l3 i0 i1 hm hK; exact absurd hm (Nat.not_lt_zero _)
  | succ n ih =>
    intro σ l1 l2 l3 i0 i1 hm hK
    refine r_iload_n dX10_soldOf_4 rfl ?_
    refine r_aload_n dX10_soldOf_5 rfl ?_
    refine m_get dX10_soldOf_6 fl_RX10_174 rfl ?_
    refine r_icmp_ge (tgt := 45) dX10_soldOf_9 (by decide) (fun c1 => ?_) (fun c1 => ?_)
    · refine r_iload_n dX10_soldOf_45 rfl ?_
      refine r_iret dX10_soldOf_46 rfl rfl ?_
      exact ⟨_, rfl, by rw [f_X10_soldOf_L4, if_pos c1] at hK; exact hK⟩
    · refine r_iload_n dX10_soldOf_12 rfl ?_
      refine r_aload_n dX10_soldOf_13 rfl ?_
      refine m_get dX10_soldOf_14 fl_RX10_50 rfl ?_
      refine r_iload_n dX10_soldOf_17 rfl ?_
      refine m_iald (k := 17) (N := 24) hE (by decide) rfl rfl dX10_soldOf_18 (by with_reducible first | assumption | exact (Ct.up (by decide) i0.nb i1 (by with_reducible assumption)).1) ?_
      refine r_iload_n dX10_soldOf_19 rfl ?_
      refine r_icmp_ne (tgt := 36) dX10_soldOf_20 (by decide) (fun c2 => ?_) (fun c2 => ?_)
      · refine r_iconst (v := (0 : Int32)) dX10_soldOf_36 (by decide) ?_
        refine r_iadd dX10_soldOf_37 ?_
        refine r_istore_n dX10_soldOf_38 (by decide) ?_
        refine r_iinc2 (w := (1 : Int32)) dX10_soldOf_39 rfl (by decide) (by decide) ?_
        refine r_goto (tgt := 4) dX10_soldOf_42 (by decide) ?_
        refine r_loc (L' := [(0, .ref E.2.2), (1, .int l1), (2, .int (l2 + (0 : Int32))), (3, .int (l3 + (1 : Int32)))]) [2, 3, 1, 0] rfl ?_
        exact ih σ  l1 (l2 + (0 : Int32)) (l3 + (1 : Int32)) (by exact i0) (by exact (Ct.up (by decide) i0.nb i1 (by with_reducible assumption)).2.1) (by have u := (Ct.up (by decide) i0.nb i1 (by with_reducible assumption)).2.2; omega) (by rw [f_X10_soldOf_L4, if_neg c1, if_neg c2] at hK; exact hK)
      · refine r_aload_n dX10_soldOf_23 rfl ?_
        refine r_iload_n dX10_soldOf_24 rfl ?_
        refine m_callW dX10_soldOf_25 mf_X10_ownerOf ml_RX10_218 (ok_X10_ownerOf (d := d - 1) hE (by omega) _ _ (by with_reducible first | assumption | exact (Ct.up (by decide) i0.nb i1 (by with_reducible assumption)).1)) rfl rfl rfl (Nat.le_of_ble_eq_true rfl) (by omega) ?_
        refine r_iconst (v := (-1 : Int32)) dX10_soldOf_28 (by decide) ?_
        refine r_icmp_eq (tgt := 36) dX10_soldOf_29 (by decide) (fun c3 => ?_) (fun c3 => ?_)
        · refine r_iconst (v := (0 : Int32)) dX10_soldOf_36 (by decide) ?_
          refine r_iadd dX10_soldOf_37 ?_
          refine r_istore_n dX10_soldOf_38 (by decide) ?_
          refine r_iinc2 (w := (1 : Int32)) dX10_soldOf_39 rfl (by decide) (by decide) ?_
          refine r_goto (tgt := 4) dX10_soldOf_42 (by decide) ?_
          refine r_loc (L' := [(0, .ref E.2.2), (1, .int l1), (2, .int (l2 + (0 : Int32))), (3, .int (l3 + (1 : Int32)))]) [2, 3, 1, 0] rfl ?_
          exact ih σ  l1 (l2 + (0 : Int32)) (l3 + (1 : Int32)) (by exact i0) (by exact (Ct.up (by decide) i0.nb i1 (by with_reducible assumption)).2.1) (by have u := (Ct.up (by decide) i0.nb i1 (by with_reducible assumption)).2.2; omega) (by rw [f_X10_soldOf_L4, if_neg c1, if_pos c2, if_pos c3] at hK; exact hK)
        · refine r_iconst (v := (1 : Int32)) dX10_soldOf_32 (by decide) ?_
          refine r_goto (tgt := 37) dX10_soldOf_33 (by decide) ?_
          refine r_iadd dX10_soldOf_37 ?_
          refine r_istore_n dX10_soldOf_38 (by decide) ?_
          refine r_iinc2 (w := (1 : Int32)) dX10_soldOf_39 rfl (by decide) (by decide) ?_
          refine r_goto (tgt := 4) dX10_soldOf_42 (by decide) ?_
          refine r_loc (L' := [(0, .ref E.2.2), (1, .int l1), (2, .int (l2 + (1 : Int32))), (3, .int (l3 + (1 : Int32)))]) [2, 3, 1, 0] rfl ?_
          exact ih σ  l1 (l2 + (1 : Int32)) (l3 + (1 : Int32)) (by exact i0) (by exact (Ct.up (by decide) i0.nb i1 (by with_reducible assumption)).2.1) (by have u := (Ct.up (by decide) i0.nb i1 (by with_reducible assumption)).2.2; omega) (by rw [f_X10_soldOf_L4, if_neg c1, if_pos c2, if_neg c3] at hK; exact hK)
def f_X10_soldOf (σ : MSt) (p1 : Int32) : Int32 := (f_X10_soldOf_L4 (26) σ p1 (0 : Int32) (0 : Int32))
set_option maxRecDepth 100000 in
set_option maxHeartbeats 1000000 in
theorem ok_X10_soldOf {g : GC} {E : ME} {d : Nat} (hE : MEok E) (hd : 2 ≤ d) (σ : MSt) (p1 : Int32) (h0 : MInv σ) : MC g E d yX10_soldOf cX10_soldOf 4 (some FieldType.int) [.int p1] (fun v σ' => v = some (.int (f_X10_soldOf σ p1)) ∧ σ' = σ) σ := by
  refine AM.of2 (own := RX10) (nm := "soldOf") (L0 := [(0, .ref E.2.2), (1, .int p1)]) (by decide) rfl rfl (Nat.le_of_ble_eq_true rfl) rfl ?_
  refine r_iconst (v := (0 : Int32)) dX10_soldOf_0 (by decide) ?_
  refine r_istore_n dX10_soldOf_1 (by decide) ?_
  refine r_iconst (v := (0 : Int32)) dX10_soldOf_2 (by decide) ?_
  refine r_istore_n dX10_soldOf_3 (by decide) ?_
  refine r_loc (L' := [(0, .ref E.2.2), (1, .int p1), (2, .int (0 : Int32)), (3, .int (0 : Int32))]) [2, 3, 1, 0] rfl ?_
  exact lp_X10_soldOf_4 hE (by omega) (26) σ p1 (0 : Int32) (0 : Int32) (by first | exact h0 | assumption) (by exact Ct.zero _) (by decide) ⟨by rw [f_X10_soldOf], rfl⟩

def f_X10_salesBy_L4 : Nat → MSt → Int32 → Int32 → Int32 → Int32
  | 0, _, _, _, _ => 0
  | n + 1, σ, l1, l2, l3 => (if (σ.1 26) ≤ l3 then l2 else (if (σ.2.2 22 (Int32.toNatClampNeg l3)) = l1 then (f_X10_salesBy_L4 n σ l1 (l2 + (1 : Int32)) (l3 + (1 : Int32))) else (f_X10_salesBy_L4 n σ l1 (l2 + (0 : Int32)) (l3 + (1 : Int32)))))
set_option maxRecDepth 100000 in
set_option maxHeartbeats 1000000 in
theorem lp_X10_salesBy_4 {g : GC} {E : ME} {d : Nat} {K : Option Value → MSt → Prop} (hE : MEok E) (hd : 0 ≤ d) : ∀ (fuel : Nat) (σ : MSt) (l1 : Int32) (l2 : Int32) (l3 : Int32), MInv σ → Ct l3 40 → 41 - l3.toNatClampNeg < fuel → K (some (.int (f_X10_salesBy_L4 fuel σ l1 l2 l3))) σ → MW g E cX10_salesBy 4 (some FieldType.int) "salesBy" d K 4 [(0, .ref E.2.2), (1, .int l1), (2, .int l2), (3, .int l3)] [] σ := by
  intro fuel
  induction fuel with
  | zero => intro σ l1 l2 l3 i0 i1 hm hK; exact absurd hm (Nat.not_lt_zero _)
  | succ n ih =>
    intro σ l1 l2 l3 i0 i1 hm hK
    refine r_iload_n dX10_salesBy_4 rfl ?_
    refine r_aload_n dX10_salesBy_5 rfl ?_
    refine m_get dX10_salesBy_6 fl_RX10_232 rfl ?_
    refine r_icmp_ge (tgt := 36) dX10_salesBy_9 (by decide) (fun c1 => ?_) (fun c1 => ?_)
    · refine r_iload_n dX10_salesBy_36 rfl ?_
      refine r_iret dX10_salesBy_37 rfl rfl ?_
      exact ⟨_, rfl, by rw [f_X10_salesBy_L4, if_pos c1] at hK; exact hK⟩
    · refine r_iload_n dX10_salesBy_12 rfl ?_
      refine r_aload_n dX10_salesBy_13 rfl ?_
      refine m_get dX10_salesBy_14 fl_RX10_62 rfl ?_
      refine r_iload_n dX10_salesBy_17 rfl ?_
      refine m_iald (k := 22) (N := 40) hE (by decide) rfl rfl dX10_salesBy_18 (by with_reducible first | assumption | exact (Ct.up (by decide) i0.ns i1 (by with_reducible assumption)).1) ?_
      refine r_iload_n dX10_salesBy_19 rfl ?_
      refine r_icmp_ne (tgt := 27) dX10_salesBy_20 (by decide) (fun c2 => ?_) (fun c2 => ?_)
      · refine r_iconst (v := (0 : Int32)) dX10_salesBy_27 (by decide) ?_
        refine r_iadd dX10_salesBy_28 ?_
        refine r_istore_n dX10_salesBy_29 (by decide) ?_
        refine r_iinc2 (w := (1 : Int32)) dX10_salesBy_30 rfl (by decide) (by decide) ?_
        refine r_goto (tgt := 4) dX10_salesBy_33 (by decide) ?_
        refine r_loc (L' := [(0, .ref E.2.2), (1, .int l1), (2, .int (l2 + (0 : Int32))), (3, .int (l3 + (1 : Int32)))]) [2, 3, 1, 0] rfl ?_
        exact ih σ  l1 (l2 + (0 : Int32)) (l3 + (1 : Int32)) (by exact i0) (by exact (Ct.up (by decide) i0.ns i1 (by with_reducible assumption)).2.1) (by have u := (Ct.up (by decide) i0.ns i1 (by with_reducible assumption)).2.2; omega) (by rw [f_X10_salesBy_L4, if_neg c1, if_neg c2] at hK; exact hK)
      · refine r_iconst (v := (1 : Int32)) dX10_salesBy_23 (by decide) ?_
        refine r_goto (tgt := 28) dX10_salesBy_24 (by decide) ?_
        refine r_iadd dX10_salesBy_28 ?_
        refine r_istore_n dX10_salesBy_29 (by decide) ?_
        refine r_iinc2 (w := (1 : Int32)) dX10_salesBy_30 rfl (by decide) (by decide) ?_
        refine r_goto (tgt := 4) dX10_salesBy_33 (by decide) ?_
        refine r_loc (L' := [(0, .ref E.2.2), (1, .int l1), (2, .int (l2 + (1 : Int32))), (3, .int (l3 + (1 : Int32)))]) [2, 3, 1, 0] rfl ?_
        exact ih σ  l1 (l2 + (1 : Int32)) (l3 + (1 : Int32)) (by exact i0) (by exact (Ct.up (by decide) i0.ns i1 (by with_reducible assumption)).2.1) (by have u := (Ct.up (by decide) i0.ns i1 (by with_reducible assumption)).2.2; omega) (by rw [f_X10_salesBy_L4, if_neg c1, if_pos c2] at hK; exact hK)
def f_X10_salesBy (σ : MSt) (p1 : Int32) : Int32 := (f_X10_salesBy_L4 (42) σ p1 (0 : Int32) (0 : Int32))
set_option maxRecDepth 100000 in
set_option maxHeartbeats 1000000 in
theorem ok_X10_salesBy {g : GC} {E : ME} {d : Nat} (hE : MEok E) (hd : 0 ≤ d) (σ : MSt) (p1 : Int32) (h0 : MInv σ) : MC g E d yX10_salesBy cX10_salesBy 4 (some FieldType.int) [.int p1] (fun v σ' => v = some (.int (f_X10_salesBy σ p1)) ∧ σ' = σ) σ := by
  refine AM.of2 (own := RX10) (nm := "salesBy") (L0 := [(0, .ref E.2.2), (1, .int p1)]) (by decide) rfl rfl (Nat.le_of_ble_eq_true rfl) rfl ?_
  refine r_iconst (v := (0 : Int32)) dX10_salesBy_0 (by decide) ?_
  refine r_istore_n dX10_salesBy_1 (by decide) ?_
  refine r_iconst (v := (0 : Int32)) dX10_salesBy_2 (by decide) ?_
  refine r_istore_n dX10_salesBy_3 (by decide) ?_
  refine r_loc (L' := [(0, .ref E.2.2), (1, .int p1), (2, .int (0 : Int32)), (3, .int (0 : Int32))]) [2, 3, 1, 0] rfl ?_
  exact lp_X10_salesBy_4 hE (by omega) (42) σ p1 (0 : Int32) (0 : Int32) (by first | exact h0 | assumption) (by exact Ct.zero _) (by decide) ⟨by rw [f_X10_salesBy], rfl⟩

def f_X10_barredBy_L4 : Nat → MSt → Int32 → Int32 → Int32 → Int32
  | 0, _, _, _, _ => 0
  | n + 1, σ, l1, l2, l3 => (if (σ.1 26) ≤ l3 then l2 else (if (σ.2.2 22 (Int32.toNatClampNeg l3)) = l1 then (if (f_X10_isBarred σ (σ.2.2 21 (Int32.toNatClampNeg l3))) = 0 then (f_X10_barredBy_L4 n σ l1 (l2 + (0 : Int32)) (l3 + (1 : Int32))) else (f_X10_barredBy_L4 n σ l1 (l2 + (1 : Int32)) (l3 + (1 : Int32)))) else (f_X10_barredBy_L4 n σ l1 (l2 + (0 : Int32)) (l3 + (1 : Int32)))))
set_option maxRecDepth 100000 in
set_option maxHeartbeats 1000000 in
theorem lp_X10_barredBy_4 {g : GC} {E : ME} {d : Nat} {K : Option Value → MSt → Prop} (hE : MEok E) (hd : 5 ≤ d) : ∀ (fuel : Nat) (σ : MSt) (l1 : Int32) (l2 : Int32) (l3 : Int32), MInv σ → Ct l3 40 → 41 - l3.toNatClampNeg < fuel → K (some (.int (f_X10_barredBy_L4 fuel σ l1 l2 l3))) σ → MW g E cX10_barredBy 4 (some FieldType.int) "barredBy" d K 4 [(0, .ref E.2.2), (1, .int l1), (2, .int l2), (3, .int l3)] [] σ := by
  intro fuel
  induction fuel with
  | zero => intro σ l1 l2 l3 i0 i1 hm hK; exact absurd hm (Nat.not_lt_zero _)
  | succ n ih =>
    intro σ l1 l2 l3 i0 i1 hm hK
    refine r_iload_n dX10_barredBy_4 rfl ?_
    refine r_aload_n dX10_barredBy_5 rfl ?_
    refine m_get dX10_barredBy_6 fl_RX10_232 rfl ?_
    refine r_icmp_ge (tgt := 49) dX10_barredBy_9 (by decide) (fun c1 => ?_) (fun c1 => ?_)
    · refine r_iload_n dX10_barredBy_49 rfl ?_
      refine r_iret dX10_barredBy_50 rfl rfl ?_
      exact ⟨_, rfl, by rw [f_X10_barredBy_L4, if_pos c1] at hK; exact hK⟩
    · refine r_iload_n dX10_barredBy_12 rfl ?_
      refine r_aload_n dX10_barredBy_13 rfl ?_
      refine m_get dX10_barredBy_14 fl_RX10_62 rfl ?_
      refine r_iload_n dX10_barredBy_17 rfl ?_
      refine m_iald (k := 22) (N := 40) hE (by decide) rfl rfl dX10_barredBy_18 (by with_reducible first | assumption | exact i0.sb _ | exact (Ct.up (by decide) i0.ns i1 (by with_reducible assumption)).1) ?_
      refine r_iload_n dX10_barredBy_19 rfl ?_
      refine r_icmp_ne (tgt := 40) dX10_barredBy_20 (by decide) (fun c2 => ?_) (fun c2 => ?_)
      · refine r_iconst (v := (0 : Int32)) dX10_barredBy_40 (by decide) ?_
        refine r_iadd dX10_barredBy_41 ?_
        refine r_istore_n dX10_barredBy_42 (by decide) ?_
        refine r_iinc2 (w := (1 : Int32)) dX10_barredBy_43 rfl (by decide) (by decide) ?_
        refine r_goto (tgt := 4) dX10_barredBy_46 (by decide) ?_
        refine r_loc (L' := [(0, .ref E.2.2), (1, .int l1), (2, .int (l2 + (0 : Int32))), (3, .int (l3 + (1 : Int32)))]) [2, 3, 1, 0] rfl ?_
        exact ih σ  l1 (l2 + (0 : Int32)) (l3 + (1 : Int32)) (by exact i0) (by exact (Ct.up (by decide) i0.ns i1 (by with_reducible assumption)).2.1) (by have u := (Ct.up (by decide) i0.ns i1 (by with_reducible assumption)).2.2; omega) (by rw [f_X10_barredBy_L4, if_neg c1, if_neg c2] at hK; exact hK)
      · refine r_aload_n dX10_barredBy_23 rfl ?_
        refine r_aload_n dX10_barredBy_24 rfl ?_
        refine m_get dX10_barredBy_25 fl_RX10_59 rfl ?_
        refine r_iload_n dX10_barredBy_28 rfl ?_
        refine m_iald (k := 21) (N := 40) hE (by decide) rfl rfl dX10_barredBy_29 (by with_reducible first | assumption | exact i0.sb _ | exact (Ct.up (by decide) i0.ns i1 (by with_reducible assumption)).1) ?_
        refine m_callW dX10_barredBy_30 mf_X10_isBarred ml_RX10_209 (ok_X10_isBarred (d := d - 1) hE (by omega) _ _ (by with_reducible first | assumption | exact i0.sb _ | exact (Ct.up (by decide) i0.ns i1 (by with_reducible assumption)).1) (by with_reducible first | assumption | exact i0.sb _ | exact (Ct.up (by decide) i0.ns i1 (by with_reducible assumption)).1)) rfl rfl rfl (Nat.le_of_ble_eq_true rfl) (by omega) ?_
        refine r_if_eq (tgt := 40) dX10_barredBy_33 (by decide) (fun c3 => ?_) (fun c3 => ?_)
        · refine r_iconst (v := (0 : Int32)) dX10_barredBy_40 (by decide) ?_
          refine r_iadd dX10_barredBy_41 ?_
          refine r_istore_n dX10_barredBy_42 (by decide) ?_
          refine r_iinc2 (w := (1 : Int32)) dX10_barredBy_43 rfl (by decide) (by decide) ?_
          refine r_goto (tgt := 4) dX10_barredBy_46 (by decide) ?_
          refine r_loc (L' := [(0, .ref E.2.2), (1, .int l1), (2, .int (l2 + (0 : Int32))), (3, .int (l3 + (1 : Int32)))]) [2, 3, 1, 0] rfl ?_
          exact ih σ  l1 (l2 + (0 : Int32)) (l3 + (1 : Int32)) (by exact i0) (by exact (Ct.up (by decide) i0.ns i1 (by with_reducible assumption)).2.1) (by have u := (Ct.up (by decide) i0.ns i1 (by with_reducible assumption)).2.2; omega) (by rw [f_X10_barredBy_L4, if_neg c1, if_pos c2, if_pos c3] at hK; exact hK)
        · refine r_iconst (v := (1 : Int32)) dX10_barredBy_36 (by decide) ?_
          refine r_goto (tgt := 41) dX10_barredBy_37 (by decide) ?_
          refine r_iadd dX10_barredBy_41 ?_
          refine r_istore_n dX10_barredBy_42 (by decide) ?_
          refine r_iinc2 (w := (1 : Int32)) dX10_barredBy_43 rfl (by decide) (by decide) ?_
          refine r_goto (tgt := 4) dX10_barredBy_46 (by decide) ?_
          refine r_loc (L' := [(0, .ref E.2.2), (1, .int l1), (2, .int (l2 + (1 : Int32))), (3, .int (l3 + (1 : Int32)))]) [2, 3, 1, 0] rfl ?_
          exact ih σ  l1 (l2 + (1 : Int32)) (l3 + (1 : Int32)) (by exact i0) (by exact (Ct.up (by decide) i0.ns i1 (by with_reducible assumption)).2.1) (by have u := (Ct.up (by decide) i0.ns i1 (by with_reducible assumption)).2.2; omega) (by rw [f_X10_barredBy_L4, if_neg c1, if_pos c2, if_neg c3] at hK; exact hK)
def f_X10_barredBy (σ : MSt) (p1 : Int32) : Int32 := (f_X10_barredBy_L4 (42) σ p1 (0 : Int32) (0 : Int32))
set_option maxRecDepth 100000 in
set_option maxHeartbeats 1000000 in
theorem ok_X10_barredBy {g : GC} {E : ME} {d : Nat} (hE : MEok E) (hd : 5 ≤ d) (σ : MSt) (p1 : Int32) (h0 : MInv σ) : MC g E d yX10_barredBy cX10_barredBy 4 (some FieldType.int) [.int p1] (fun v σ' => v = some (.int (f_X10_barredBy σ p1)) ∧ σ' = σ) σ := by
  refine AM.of2 (own := RX10) (nm := "barredBy") (L0 := [(0, .ref E.2.2), (1, .int p1)]) (by decide) rfl rfl (Nat.le_of_ble_eq_true rfl) rfl ?_
  refine r_iconst (v := (0 : Int32)) dX10_barredBy_0 (by decide) ?_
  refine r_istore_n dX10_barredBy_1 (by decide) ?_
  refine r_iconst (v := (0 : Int32)) dX10_barredBy_2 (by decide) ?_
  refine r_istore_n dX10_barredBy_3 (by decide) ?_
  refine r_loc (L' := [(0, .ref E.2.2), (1, .int p1), (2, .int (0 : Int32)), (3, .int (0 : Int32))]) [2, 3, 1, 0] rfl ?_
  exact lp_X10_barredBy_4 hE (by omega) (42) σ p1 (0 : Int32) (0 : Int32) (by first | exact h0 | assumption) (by exact Ct.zero _) (by decide) ⟨by rw [f_X10_barredBy], rfl⟩

def f_X10_handsOf_L4 : Nat → MSt → Int32 → Int32 → Int32 → Int32
  | 0, _, _, _, _ => 0
  | n + 1, σ, l1, l2, l3 => (if (σ.1 26) ≤ l3 then l2 else (if (σ.2.2 21 (Int32.toNatClampNeg l3)) = l1 then (f_X10_handsOf_L4 n σ l1 (l2 ||| (((1 : Int32) <<< ((σ.2.2 22 (Int32.toNatClampNeg l3)) &&& 31)) ||| ((1 : Int32) <<< ((σ.2.2 23 (Int32.toNatClampNeg l3)) &&& 31)))) (l3 + (1 : Int32))) else (f_X10_handsOf_L4 n σ l1 (l2 ||| (0 : Int32)) (l3 + (1 : Int32)))))
set_option maxRecDepth 100000 in
set_option maxHeartbeats 1000000 in
theorem lp_X10_handsOf_4 {g : GC} {E : ME} {d : Nat} {K : Option Value → MSt → Prop} (hE : MEok E) (hd : 0 ≤ d) : ∀ (fuel : Nat) (σ : MSt) (l1 : Int32) (l2 : Int32) (l3 : Int32), MInv σ → Ct l3 40 → 41 - l3.toNatClampNeg < fuel → K (some (.int (f_X10_handsOf_L4 fuel σ l1 l2 l3))) σ → MW g E cX10_handsOf 4 (some FieldType.int) "handsOf" d K 4 [(0, .ref E.2.2), (1, .int l1), (2, .int l2), (3, .int l3)] [] σ := by
  intro fuel
  induction fuel with
  | zero => intro σ l1 l2 l3 i0 i1 hm hK; exact absurd hm (Nat.not_lt_zero _)
  | succ n ih =>
    intro σ l1 l2 l3 i0 i1 hm hK
    refine r_iload_n dX10_handsOf_4 rfl ?_
    refine r_aload_n dX10_handsOf_5 rfl ?_
    refine m_get dX10_handsOf_6 fl_RX10_232 rfl ?_
    refine r_icmp_ge (tgt := 52) dX10_handsOf_9 (by decide) (fun c1 => ?_) (fun c1 => ?_)
    · refine r_iload_n dX10_handsOf_52 rfl ?_
      refine r_iret dX10_handsOf_53 rfl rfl ?_
      exact ⟨_, rfl, by rw [f_X10_handsOf_L4, if_pos c1] at hK; exact hK⟩
    · refine r_iload_n dX10_handsOf_12 rfl ?_
      refine r_aload_n dX10_handsOf_13 rfl ?_
      refine m_get dX10_handsOf_14 fl_RX10_59 rfl ?_
      refine r_iload_n dX10_handsOf_17 rfl ?_
      refine m_iald (k := 21) (N := 40) hE (by decide) rfl rfl dX10_handsOf_18 (by with_reducible first | assumption | exact (Ct.up (by decide) i0.ns i1 (by with_reducible assumption)).1) ?_
      refine r_iload_n dX10_handsOf_19 rfl ?_
      refine r_icmp_ne (tgt := 43) dX10_handsOf_20 (by decide) (fun c2 => ?_) (fun c2 => ?_)
      · refine r_iconst (v := (0 : Int32)) dX10_handsOf_43 (by decide) ?_
        refine r_ior dX10_handsOf_44 ?_
        refine r_istore_n dX10_handsOf_45 (by decide) ?_
        refine r_iinc2 (w := (1 : Int32)) dX10_handsOf_46 rfl (by decide) (by decide) ?_
        refine r_goto (tgt := 4) dX10_handsOf_49 (by decide) ?_
        refine r_loc (L' := [(0, .ref E.2.2), (1, .int l1), (2, .int (l2 ||| (0 : Int32))), (3, .int (l3 + (1 : Int32)))]) [2, 3, 1, 0] rfl ?_
        exact ih σ  l1 (l2 ||| (0 : Int32)) (l3 + (1 : Int32)) (by exact i0) (by exact (Ct.up (by decide) i0.ns i1 (by with_reducible assumption)).2.1) (by have u := (Ct.up (by decide) i0.ns i1 (by with_reducible assumption)).2.2; omega) (by rw [f_X10_handsOf_L4, if_neg c1, if_neg c2] at hK; exact hK)
      · refine r_iconst (v := (1 : Int32)) dX10_handsOf_23 (by decide) ?_
        refine r_aload_n dX10_handsOf_24 rfl ?_
        refine m_get dX10_handsOf_25 fl_RX10_62 rfl ?_
        refine r_iload_n dX10_handsOf_28 rfl ?_
        refine m_iald (k := 22) (N := 40) hE (by decide) rfl rfl dX10_handsOf_29 (by with_reducible first | assumption | exact (Ct.up (by decide) i0.ns i1 (by with_reducible assumption)).1) ?_
        refine r_ishl dX10_handsOf_30 ?_
        refine r_iconst (v := (1 : Int32)) dX10_handsOf_31 (by decide) ?_
        refine r_aload_n dX10_handsOf_32 rfl ?_
        refine m_get dX10_handsOf_33 fl_RX10_65 rfl ?_
        refine r_iload_n dX10_handsOf_36 rfl ?_
        refine m_iald (k := 23) (N := 40) hE (by decide) rfl rfl dX10_handsOf_37 (by with_reducible first | assumption | exact (Ct.up (by decide) i0.ns i1 (by with_reducible assumption)).1) ?_
        refine r_ishl dX10_handsOf_38 ?_
        refine r_ior dX10_handsOf_39 ?_
        refine r_goto (tgt := 44) dX10_handsOf_40 (by decide) ?_
        refine r_ior dX10_handsOf_44 ?_
        refine r_istore_n dX10_handsOf_45 (by decide) ?_
        refine r_iinc2 (w := (1 : Int32)) dX10_handsOf_46 rfl (by decide) (by decide) ?_
        refine r_goto (tgt := 4) dX10_handsOf_49 (by decide) ?_
        refine r_loc (L' := [(0, .ref E.2.2), (1, .int l1), (2, .int (l2 ||| (((1 : Int32) <<< ((σ.2.2 22 (Int32.toNatClampNeg l3)) &&& 31)) ||| ((1 : Int32) <<< ((σ.2.2 23 (Int32.toNatClampNeg l3)) &&& 31))))), (3, .int (l3 + (1 : Int32)))]) [2, 3, 1, 0] rfl ?_
        exact ih σ  l1 (l2 ||| (((1 : Int32) <<< ((σ.2.2 22 (Int32.toNatClampNeg l3)) &&& 31)) ||| ((1 : Int32) <<< ((σ.2.2 23 (Int32.toNatClampNeg l3)) &&& 31)))) (l3 + (1 : Int32)) (by exact i0) (by exact (Ct.up (by decide) i0.ns i1 (by with_reducible assumption)).2.1) (by have u := (Ct.up (by decide) i0.ns i1 (by with_reducible assumption)).2.2; omega) (by rw [f_X10_handsOf_L4, if_neg c1, if_pos c2] at hK; exact hK)
def f_X10_handsOf (σ : MSt) (p1 : Int32) : Int32 := (f_X10_handsOf_L4 (42) σ p1 (0 : Int32) (0 : Int32))
set_option maxRecDepth 100000 in
set_option maxHeartbeats 1000000 in
theorem ok_X10_handsOf {g : GC} {E : ME} {d : Nat} (hE : MEok E) (hd : 0 ≤ d) (σ : MSt) (p1 : Int32) (h0 : MInv σ) : MC g E d yX10_handsOf cX10_handsOf 4 (some FieldType.int) [.int p1] (fun v σ' => v = some (.int (f_X10_handsOf σ p1)) ∧ σ' = σ) σ := by
  refine AM.of2 (own := RX10) (nm := "handsOf") (L0 := [(0, .ref E.2.2), (1, .int p1)]) (by decide) rfl rfl (Nat.le_of_ble_eq_true rfl) rfl ?_
  refine r_iconst (v := (0 : Int32)) dX10_handsOf_0 (by decide) ?_
  refine r_istore_n dX10_handsOf_1 (by decide) ?_
  refine r_iconst (v := (0 : Int32)) dX10_handsOf_2 (by decide) ?_
  refine r_istore_n dX10_handsOf_3 (by decide) ?_
  refine r_loc (L' := [(0, .ref E.2.2), (1, .int p1), (2, .int (0 : Int32)), (3, .int (0 : Int32))]) [2, 3, 1, 0] rfl ?_
  exact lp_X10_handsOf_4 hE (by omega) (42) σ p1 (0 : Int32) (0 : Int32) (by first | exact h0 | assumption) (by exact Ct.zero _) (by decide) ⟨by rw [f_X10_handsOf], rfl⟩

def f_X10_withinOf (σ : MSt) (p1 : Int32) : Int32 := (if (σ.2.2 16 (Int32.toNatClampNeg p1)) = (1 : Int32) then (σ.2.2 17 (Int32.toNatClampNeg p1)) else (if (σ.2.2 16 (Int32.toNatClampNeg p1)) = (3 : Int32) then (σ.2.2 17 (Int32.toNatClampNeg p1)) else (σ.2.2 18 (Int32.toNatClampNeg p1))))
set_option maxRecDepth 100000 in
set_option maxHeartbeats 1000000 in
theorem ok_X10_withinOf {g : GC} {E : ME} {d : Nat} (hE : MEok E) (hd : 0 ≤ d) (σ : MSt) (p1 : Int32) (h0 : MInv σ) (h1 : vp_in p1 24) : MC g E d yX10_withinOf cX10_withinOf 2 (some FieldType.int) [.int p1] (fun v σ' => v = some (.int (f_X10_withinOf σ p1)) ∧ σ' = σ) σ := by
  refine AM.of2 (own := RX10) (nm := "withinOf") (L0 := [(0, .ref E.2.2), (1, .int p1)]) (by decide) rfl rfl (Nat.le_of_ble_eq_true rfl) rfl ?_
  refine r_aload_n dX10_withinOf_0 rfl ?_
  refine m_get dX10_withinOf_1 fl_RX10_47 rfl ?_
  refine r_iload_n dX10_withinOf_4 rfl ?_
  refine m_iald (k := 16) (N := 24) hE (by decide) rfl rfl dX10_withinOf_5 (by with_reducible first | assumption) ?_
  refine r_iconst (v := (1 : Int32)) dX10_withinOf_6 (by decide) ?_
  refine r_icmp_eq (tgt := 20) dX10_withinOf_7 (by decide) (fun c1 => ?_) (fun c1 => ?_)
  · refine r_aload_n dX10_withinOf_20 rfl ?_
    refine m_get dX10_withinOf_21 fl_RX10_50 rfl ?_
    refine r_iload_n dX10_withinOf_24 rfl ?_
    refine m_iald (k := 17) (N := 24) hE (by decide) rfl rfl dX10_withinOf_25 (by with_reducible first | assumption) ?_
    refine r_goto (tgt := 35) dX10_withinOf_26 (by decide) ?_
    refine r_iret dX10_withinOf_35 rfl rfl ?_
    exact ⟨_, rfl, by rw [f_X10_withinOf, if_pos c1], rfl⟩
  · refine r_aload_n dX10_withinOf_10 rfl ?_
    refine m_get dX10_withinOf_11 fl_RX10_47 rfl ?_
    refine r_iload_n dX10_withinOf_14 rfl ?_
    refine m_iald (k := 16) (N := 24) hE (by decide) rfl rfl dX10_withinOf_15 (by with_reducible first | assumption) ?_
    refine r_iconst (v := (3 : Int32)) dX10_withinOf_16 (by decide) ?_
    refine r_icmp_ne (tgt := 29) dX10_withinOf_17 (by decide) (fun c2 => ?_) (fun c2 => ?_)
    · refine r_aload_n dX10_withinOf_29 rfl ?_
      refine m_get dX10_withinOf_30 fl_RX10_53 rfl ?_
      refine r_iload_n dX10_withinOf_33 rfl ?_
      refine m_iald (k := 18) (N := 24) hE (by decide) rfl rfl dX10_withinOf_34 (by with_reducible first | assumption) ?_
      refine r_iret dX10_withinOf_35 rfl rfl ?_
      exact ⟨_, rfl, by rw [f_X10_withinOf, if_neg c1, if_neg c2], rfl⟩
    · refine r_aload_n dX10_withinOf_20 rfl ?_
      refine m_get dX10_withinOf_21 fl_RX10_50 rfl ?_
      refine r_iload_n dX10_withinOf_24 rfl ?_
      refine m_iald (k := 17) (N := 24) hE (by decide) rfl rfl dX10_withinOf_25 (by with_reducible first | assumption) ?_
      refine r_goto (tgt := 35) dX10_withinOf_26 (by decide) ?_
      refine r_iret dX10_withinOf_35 rfl rfl ?_
      exact ⟨_, rfl, by rw [f_X10_withinOf, if_neg c1, if_pos c2], rfl⟩

def f_X10_source (σ : MSt) (p1 : Int32) (p2 : Int32) : Int32 := (if (f_X10_isHand p1) = 0 then (-2 : Int32) else (if (f_X10_in (Int32.toInt64 p2) (0 : Int64) (1 : Int64)) = 0 then (-2 : Int32) else (if p2 = 0 then (f_X10_salesBy σ p1) else (f_X10_barredBy σ p1))))
set_option maxRecDepth 100000 in
set_option maxHeartbeats 1000000 in
theorem ok_X10_source {g : GC} {E : ME} {d : Nat} (hE : MEok E) (hd : 6 ≤ d) (σ : MSt) (p1 : Int32) (p2 : Int32) (h0 : MInv σ) : MC g E d yX10_source cX10_source 3 (some FieldType.int) [.int p1, .int p2] (fun v σ' => v = some (.int (f_X10_source σ p1 p2)) ∧ σ' = σ) σ := by
  refine AM.of2 (own := RX10) (nm := "source") (L0 := [(0, .ref E.2.2), (1, .int p1), (2, .int p2)]) (by decide) rfl rfl (Nat.le_of_ble_eq_true rfl) rfl ?_
  refine r_iload_n dX10_source_0 rfl ?_
  refine m_callS dX10_source_1 mf_X10_isHand ml_RX10_406 (ok_X10_isHand (d := d - 1) (by omega) _) rfl rfl (Nat.le_of_ble_eq_true rfl) (by omega) ?_
  refine r_if_eq (tgt := 17) dX10_source_4 (by decide) (fun c1 => ?_) (fun c1 => ?_)
  · refine r_bipush (v := (-2 : Int32)) dX10_source_17 (by decide) ?_
    refine r_iret dX10_source_19 rfl rfl ?_
    exact ⟨_, rfl, by rw [f_X10_source, if_pos c1], rfl⟩
  · refine r_iload_n dX10_source_7 rfl ?_
    refine r_i2l dX10_source_8 ?_
    refine r_lconst (v := (0 : Int64)) dX10_source_9 (by decide) ?_
    refine r_lconst (v := (1 : Int64)) dX10_source_10 (by decide) ?_
    refine m_callS dX10_source_11 mf_X10_in ml_RX10_149 (ok_X10_in (d := d - 1) (by omega) _ _ _) rfl rfl (Nat.le_of_ble_eq_true rfl) (by omega) ?_
    refine r_if_ne (tgt := 20) dX10_source_14 (by decide) (fun c2 => ?_) (fun c2 => ?_)
    · refine r_iload_n dX10_source_20 rfl ?_
      refine r_if_ne (tgt := 32) dX10_source_21 (by decide) (fun c3 => ?_) (fun c3 => ?_)
      · refine r_aload_n dX10_source_32 rfl ?_
        refine r_iload_n dX10_source_33 rfl ?_
        refine m_callW dX10_source_34 mf_X10_barredBy ml_RX10_412 (ok_X10_barredBy (d := d - 1) hE (by omega) _ _ (by with_reducible first | assumption)) rfl rfl rfl (Nat.le_of_ble_eq_true rfl) (by omega) ?_
        refine r_iret dX10_source_37 rfl rfl ?_
        exact ⟨_, rfl, by rw [f_X10_source, if_neg c1, if_neg c2, if_neg c3], rfl⟩
      · refine r_aload_n dX10_source_24 rfl ?_
        refine r_iload_n dX10_source_25 rfl ?_
        refine m_callW dX10_source_26 mf_X10_salesBy ml_RX10_409 (ok_X10_salesBy (d := d - 1) hE (by omega) _ _ (by with_reducible first | assumption)) rfl rfl rfl (Nat.le_of_ble_eq_true rfl) (by omega) ?_
        refine r_goto (tgt := 37) dX10_source_29 (by decide) ?_
        refine r_iret dX10_source_37 rfl rfl ?_
        exact ⟨_, rfl, by rw [f_X10_source, if_neg c1, if_neg c2, if_pos c3], rfl⟩
    · refine r_bipush (v := (-2 : Int32)) dX10_source_17 (by decide) ?_
      refine r_iret dX10_source_19 rfl rfl ?_
      exact ⟨_, rfl, by rw [f_X10_source, if_neg c1, if_pos c2], rfl⟩
