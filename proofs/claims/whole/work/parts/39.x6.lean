def f_X4_fail (S : XSh) (σ : XSt)  : XSt := (if (σ.1 4 0 3) = (-1 : Int32) then (xp (xp σ 4 0 3 (σ.1 4 0 6)) 4 0 5 (14 : Int32)) else (xp σ 4 0 5 (14 : Int32)))
set_option maxRecDepth 100000 in
set_option maxHeartbeats 1000000 in
theorem ok_X4_fail {g : GC} {B : hH} {am : XAd} {S : XSh} {d : Nat} (hE : XOk am S) (hX : GX g) (hd : 0 ≤ d) (σ : XSt)   : XC g B am S d yX4_fail cX4_fail 1 none [.ref (am 4 0)] (fun v σ' => v = none ∧ σ' = (f_X4_fail S σ)) σ := by
  refine AM.of2 (own := RX4) (nm := "fail") (L0 := [(0, .ref (am 4 0))]) (by decide) rfl rfl (Nat.le_of_ble_eq_true rfl) rfl ?_
  refine r_aload_n dX4_fail_0 rfl ?_
  refine x_getI (c := 4) (x := (σ.1 4 0 3)) hE (fun _ _ => rfl) (fun _ => rfl) dX4_fail_1 fl_RX4_19 (Nat.le_of_ble_eq_true rfl) rfl ?_
  refine r_iconst (v := (-1 : Int32)) dX4_fail_4 (by decide) ?_
  refine r_icmp_ne (tgt := 16) dX4_fail_5 (by decide) (fun c1 => ?_) (fun c1 => ?_)
  · refine r_aload_n dX4_fail_16 rfl ?_
    refine r_bipush (v := (14 : Int32)) dX4_fail_17 (by decide) ?_
    refine x_put (c := 4) (i := 0) (k := 5) hE (fun _ _ => rfl) dX4_fail_19 fp_RX4_59 (Nat.le_of_ble_eq_true rfl) rfl rfl (fun _ => Nat.le_of_ble_eq_true rfl) (fun _ _ => rfl) ?_
    refine r_vret dX4_fail_22 rfl ?_
    exact ⟨_, rfl, by rfl, by rw [f_X4_fail, if_neg c1]⟩
  · refine r_aload_n dX4_fail_8 rfl ?_
    refine r_aload_n dX4_fail_9 rfl ?_
    refine x_getI (c := 4) (x := (σ.1 4 0 6)) hE (fun _ _ => rfl) (fun _ => rfl) dX4_fail_10 fl_RX4_86 (Nat.le_of_ble_eq_true rfl) rfl ?_
    refine x_put (c := 4) (i := 0) (k := 3) hE (fun _ _ => rfl) dX4_fail_13 fp_RX4_19 (Nat.le_of_ble_eq_true rfl) rfl rfl (fun _ => Nat.le_of_ble_eq_true rfl) (fun _ _ => rfl) ?_
    refine r_aload_n dX4_fail_16 rfl ?_
    refine r_bipush (v := (14 : Int32)) dX4_fail_17 (by decide) ?_
    refine x_put (c := 4) (i := 0) (k := 5) hE (fun _ _ => rfl) dX4_fail_19 fp_RX4_59 (Nat.le_of_ble_eq_true rfl) rfl rfl (fun _ => Nat.le_of_ble_eq_true rfl) (fun _ _ => rfl) ?_
    refine r_vret dX4_fail_22 rfl ?_
    exact ⟨_, rfl, by rfl, by rw [f_X4_fail, if_pos c1]⟩

def f_X4_emit (S : XSh) (σ : XSt) (p1 : Int32) : XSt := (if (160 : Int32) ≤ (σ.1 4 0 8) then σ else (xp (xa σ 29 0 (Int32.toNatClampNeg (σ.1 4 0 8)) p1) 4 0 8 ((σ.1 4 0 8) + (1 : Int32))))
set_option maxRecDepth 100000 in
set_option maxHeartbeats 1000000 in
theorem ok_X4_emit {g : GC} {B : hH} {am : XAd} {S : XSh} {d : Nat} (hE : XOk am S) (hX : GX g) (hd : 0 ≤ d) (σ : XSt) (p1 : Int32) (h0 : Ct (σ.1 4 0 8) 160) : XC g B am S d yX4_emit cX4_emit 2 none [.ref (am 4 0), .int p1] (fun v σ' => v = none ∧ σ' = (f_X4_emit S σ p1)) σ := by
  refine AM.of2 (own := RX4) (nm := "emit") (L0 := [(0, .ref (am 4 0)), (1, .int p1)]) (by decide) rfl rfl (Nat.le_of_ble_eq_true rfl) rfl ?_
  refine r_aload_n dX4_emit_0 rfl ?_
  refine x_getI (c := 4) (x := (σ.1 4 0 8)) hE (fun _ _ => rfl) (fun _ => rfl) dX4_emit_1 fl_RX4_29 (Nat.le_of_ble_eq_true rfl) rfl ?_
  refine r_sipush (v := (160 : Int32)) dX4_emit_4 (by decide) ?_
  refine r_icmp_ge (tgt := 30) dX4_emit_7 (by decide) (fun c1 => ?_) (fun c1 => ?_)
  · refine r_vret dX4_emit_30 rfl ?_
    exact ⟨_, rfl, by rfl, by rw [f_X4_emit, if_pos c1]⟩
  · refine r_aload_n dX4_emit_10 rfl ?_
    refine x_get (c := 4) hE (fun _ _ => rfl) dX4_emit_11 fl_RX4_15 (Nat.le_of_ble_eq_true rfl) rfl ?_
    refine r_aload_n dX4_emit_14 rfl ?_
    refine x_getI (c := 4) (x := (σ.1 4 0 8)) hE (fun _ _ => rfl) (fun _ => rfl) dX4_emit_15 fl_RX4_29 (Nat.le_of_ble_eq_true rfl) rfl ?_
    refine r_iload_n dX4_emit_18 rfl ?_
    refine x_iast (c := 29) (i := 0) (N := 160) hE (fun _ _ => rfl) dX4_emit_19 (Nat.le_of_ble_eq_true rfl) (by exact (Ct.up (by decide) ct160 h0 (by with_reducible assumption)).1) ?_
    refine r_aload_n dX4_emit_20 rfl ?_
    refine r_dup dX4_emit_21 rfl ?_
    refine x_getI (c := 4) (x := (σ.1 4 0 8)) hE (fun _ _ => rfl) (fun _ => rfl) dX4_emit_22 fl_RX4_29 (Nat.le_of_ble_eq_true rfl) (Eq.trans xa_f rfl) ?_
    refine r_iconst (v := (1 : Int32)) dX4_emit_25 (by decide) ?_
    refine r_iadd dX4_emit_26 ?_
    refine x_put (c := 4) (i := 0) (k := 8) hE (fun _ _ => rfl) dX4_emit_27 fp_RX4_29 (Nat.le_of_ble_eq_true rfl) rfl rfl (fun _ => Nat.le_of_ble_eq_true rfl) (fun _ _ => rfl) ?_
    refine r_vret dX4_emit_30 rfl ?_
    exact ⟨_, rfl, by rfl, by rw [f_X4_emit, if_neg c1]⟩

def f_X4_endOf_L2 : Nat → XSh → XSt → Int32 → Int32 → Int32 → Int32
  | 0, _, _, _, _, _ => 0
  | n + 1, S, σ, l1, l2, l3 => (if (σ.1 4 0 2) ≤ l3 then l3 else (if (160 : Int32) ≤ l3 then l3 else (if (f_X4_sortOf ((σ.2 28 0 (Int32.toNatClampNeg l3)) &&& (255 : Int32))) = l1 then (f_X4_endOf_L2 n S σ l1 l2 (l3 + (1 : Int32))) else l3)))
set_option maxRecDepth 100000 in
set_option maxHeartbeats 1000000 in
theorem lp_X4_endOf_2 {g : GC} {B : hH} {am : XAd} {S : XSh} {d : Nat} {K : Option Value → XSt → Prop} (hE : XOk am S) (hX : GX g) (hd : 1 ≤ d) : ∀ (fuel : Nat) (σ : XSt) (l1 : Int32) (l2 : Int32) (l3 : Int32), Ct l3 160 → 161 - l3.toNatClampNeg < fuel → K (some (.int (f_X4_endOf_L2 fuel S σ l1 l2 l3))) σ → XW g B am S RX4 cX4_endOf 4 (some FieldType.int) "endOf" d K 2 [(0, .ref (am 4 0)), (1, .int l1), (2, .int l2), (3, .int l3)] [] σ := by
  intro fuel
  induction fuel with
  | zero => intro σ l1 l2 l3 i0 hm hK; exact absurd hm (Nat.not_lt_zero _)
  | succ n ih =>
    intro σ l1 l2 l3 i0 hm hK
    refine r_iload_n dX4_endOf_2 rfl ?_
    refine r_aload_n dX4_endOf_3 rfl ?_
    refine x_getI (c := 4) (x := (σ.1 4 0 2)) hE (fun _ _ => rfl) (fun _ => rfl) dX4_endOf_4 fl_RX4_23 (Nat.le_of_ble_eq_true rfl) rfl ?_
    refine r_icmp_ge (tgt := 40) dX4_endOf_7 (by decide) (fun c1 => ?_) (fun c1 => ?_)
    · refine r_iload_n dX4_endOf_40 rfl ?_
      refine r_iret dX4_endOf_41 rfl rfl ?_
      exact ⟨_, rfl, by rw [f_X4_endOf_L2, if_pos c1] at hK; exact hK⟩
    · refine r_iload_n dX4_endOf_10 rfl ?_
      refine r_sipush (v := (160 : Int32)) dX4_endOf_11 (by decide) ?_
      refine r_icmp_ge (tgt := 40) dX4_endOf_14 (by decide) (fun c2 => ?_) (fun c2 => ?_)
      · refine r_iload_n dX4_endOf_40 rfl ?_
        refine r_iret dX4_endOf_41 rfl rfl ?_
        exact ⟨_, rfl, by rw [f_X4_endOf_L2, if_neg c1, if_pos c2] at hK; exact hK⟩
      · refine r_aload_n dX4_endOf_17 rfl ?_
        refine x_get (c := 4) hE (fun _ _ => rfl) dX4_endOf_18 fl_RX4_9 (Nat.le_of_ble_eq_true rfl) rfl ?_
        refine r_iload_n dX4_endOf_21 rfl ?_
        refine x_baldV (c := 28) (i := 0) (N := 160) (x := (σ.2 28 0 (Int32.toNatClampNeg l3))) hE (fun _ _ => rfl) dX4_endOf_22 (Nat.le_of_ble_eq_true rfl) (by exact (Ct.up (by decide) ct160 i0 (by with_reducible assumption)).1) rfl ?_
        refine r_sipush (v := (255 : Int32)) dX4_endOf_23 (by decide) ?_
        refine r_iand dX4_endOf_26 ?_
        refine r_callS0 dX4_endOf_27 mf_X4_sortOf ml_RX4_93 (ok_X4_sortOf (d := d - 1) (by omega) _) rfl rfl (Nat.le_of_ble_eq_true rfl) (by omega) ?_
        refine r_iload_n dX4_endOf_30 rfl ?_
        refine r_icmp_ne (tgt := 40) dX4_endOf_31 (by decide) (fun c3 => ?_) (fun c3 => ?_)
        · refine r_iload_n dX4_endOf_40 rfl ?_
          refine r_iret dX4_endOf_41 rfl rfl ?_
          exact ⟨_, rfl, by rw [f_X4_endOf_L2, if_neg c1, if_neg c2, if_neg c3] at hK; exact hK⟩
        · refine r_iinc2 (w := (1 : Int32)) dX4_endOf_34 rfl (by decide) (by decide) ?_
          refine r_goto (tgt := 2) dX4_endOf_37 (by decide) ?_
          refine r_loc (L' := [(0, .ref (am 4 0)), (1, .int l1), (2, .int l2), (3, .int (l3 + (1 : Int32)))]) [1, 2, 3, 0] rfl ?_
          exact ih σ  l1 l2 (l3 + (1 : Int32)) (by exact (Ct.up (by decide) ct160 i0 (by with_reducible assumption)).2.1) (by have u := (Ct.up (by decide) ct160 i0 (by with_reducible assumption)).2.2; omega) (by rw [f_X4_endOf_L2, if_neg c1, if_neg c2, if_pos c3] at hK; exact hK)
def f_X4_endOf (S : XSh) (σ : XSt) (p1 : Int32) (p2 : Int32) : Int32 := (f_X4_endOf_L2 (162) S σ p1 p2 p2)
set_option maxRecDepth 100000 in
set_option maxHeartbeats 1000000 in
theorem ok_X4_endOf {g : GC} {B : hH} {am : XAd} {S : XSh} {d : Nat} (hE : XOk am S) (hX : GX g) (hd : 1 ≤ d) (σ : XSt) (p1 : Int32) (p2 : Int32) (h0 : Ct p2 160) : XC g B am S d yX4_endOf cX4_endOf 4 (some FieldType.int) [.ref (am 4 0), .int p1, .int p2] (fun v σ' => v = some (.int (f_X4_endOf S σ p1 p2)) ∧ σ' = σ) σ := by
  refine AM.of2 (own := RX4) (nm := "endOf") (L0 := [(0, .ref (am 4 0)), (1, .int p1), (2, .int p2)]) (by decide) rfl rfl (Nat.le_of_ble_eq_true rfl) rfl ?_
  refine r_iload_n dX4_endOf_0 rfl ?_
  refine r_istore_n dX4_endOf_1 (by decide) ?_
  refine r_loc (L' := [(0, .ref (am 4 0)), (1, .int p1), (2, .int p2), (3, .int p2)]) [1, 2, 3, 0] rfl ?_
  exact lp_X4_endOf_2 hE hX (by omega) (162) σ p1 p2 p2 (by exact h0) (by omega) ⟨by rw [f_X4_endOf], rfl⟩

def f_X4_numberToken_L10 : Nat → XSh → XSt → Int32 → Int32 × XSt
  | 0, _, σ, _ => (0, σ)
  | n + 1, S, σ, l1 => (if (σ.1 4 0 4) ≤ l1 then (if (4 : Int32) < ((σ.1 4 0 4) - (σ.1 4 0 6)) then ((14 : Int32), σ) else ((12 : Int32), σ)) else (f_X4_numberToken_L10 n S (xp σ 4 0 7 (((σ.1 4 0 7) * (10 : Int32)) + ((σ.2 28 0 (Int32.toNatClampNeg l1)) - (48 : Int32)))) (l1 + (1 : Int32))))
set_option maxRecDepth 100000 in
set_option maxHeartbeats 1000000 in
theorem lp_X4_numberToken_10 {g : GC} {B : hH} {am : XAd} {S : XSh} {d : Nat} {K : Option Value → XSt → Prop} (hE : XOk am S) (hX : GX g) (hd : 0 ≤ d) : ∀ (fuel : Nat) (σ : XSt) (l1 : Int32), Ct (σ.1 4 0 4) 160 → Ct l1 160 → 161 - l1.toNatClampNeg < fuel → K (some (.int (f_X4_numberToken_L10 fuel S σ l1).1)) (f_X4_numberToken_L10 fuel S σ l1).2 → XW g B am S RX4 cX4_numberToken 2 (some FieldType.int) "numberToken" d K 10 [(0, .ref (am 4 0)), (1, .int l1)] [] σ := by
  intro fuel
  induction fuel with
  | zero => intro σ l1 i0 i1 hm hK; exact absurd hm (Nat.not_lt_zero _)
  | succ n ih =>
    intro σ l1 i0 i1 hm hK
    refine r_iload_n dX4_numberToken_10 rfl ?_
    refine r_aload_n dX4_numberToken_11 rfl ?_
    refine x_getI (c := 4) (x := (σ.1 4 0 4)) hE (fun _ _ => rfl) (fun _ => rfl) dX4_numberToken_12 fl_RX4_26 (Nat.le_of_ble_eq_true rfl) rfl ?_
    refine r_icmp_ge (tgt := 45) dX4_numberToken_15 (by decide) (fun c1 => ?_) (fun c1 => ?_)
    · refine r_aload_n dX4_numberToken_45 rfl ?_
      refine x_getI (c := 4) (x := (σ.1 4 0 4)) hE (fun _ _ => rfl) (fun _ => rfl) dX4_numberToken_46 fl_RX4_26 (Nat.le_of_ble_eq_true rfl) rfl ?_
      refine r_aload_n dX4_numberToken_49 rfl ?_
      refine x_getI (c := 4) (x := (σ.1 4 0 6)) hE (fun _ _ => rfl) (fun _ => rfl) dX4_numberToken_50 fl_RX4_86 (Nat.le_of_ble_eq_true rfl) rfl ?_
      refine r_isub dX4_numberToken_53 ?_
      refine r_iconst (v := (4 : Int32)) dX4_numberToken_54 (by decide) ?_
      refine r_icmp_gt (tgt := 63) dX4_numberToken_55 (by decide) (fun c2 => ?_) (fun c2 => ?_)
      · refine r_bipush (v := (14 : Int32)) dX4_numberToken_63 (by decide) ?_
        refine r_iret dX4_numberToken_65 rfl rfl ?_
        exact ⟨_, rfl, by rw [f_X4_numberToken_L10, if_pos c1, if_pos c2] at hK; exact hK⟩
      · refine r_bipush (v := (12 : Int32)) dX4_numberToken_58 (by decide) ?_
        refine r_goto (tgt := 65) dX4_numberToken_60 (by decide) ?_
        refine r_iret dX4_numberToken_65 rfl rfl ?_
        exact ⟨_, rfl, by rw [f_X4_numberToken_L10, if_pos c1, if_neg c2] at hK; exact hK⟩
    · refine r_aload_n dX4_numberToken_18 rfl ?_
      refine r_aload_n dX4_numberToken_19 rfl ?_
      refine x_getI (c := 4) (x := (σ.1 4 0 7)) hE (fun _ _ => rfl) (fun _ => rfl) dX4_numberToken_20 fl_RX4_83 (Nat.le_of_ble_eq_true rfl) rfl ?_
      refine r_bipush (v := (10 : Int32)) dX4_numberToken_23 (by decide) ?_
      refine r_imul dX4_numberToken_25 ?_
      refine r_aload_n dX4_numberToken_26 rfl ?_
      refine x_get (c := 4) hE (fun _ _ => rfl) dX4_numberToken_27 fl_RX4_9 (Nat.le_of_ble_eq_true rfl) rfl ?_
      refine r_iload_n dX4_numberToken_30 rfl ?_
      refine x_baldV (c := 28) (i := 0) (N := 160) (x := (σ.2 28 0 (Int32.toNatClampNeg l1))) hE (fun _ _ => rfl) dX4_numberToken_31 (Nat.le_of_ble_eq_true rfl) (by exact (Ct.up (by decide) i0 i1 (by with_reducible assumption)).1) rfl ?_
      refine r_bipush (v := (48 : Int32)) dX4_numberToken_32 (by decide) ?_
      refine r_isub dX4_numberToken_34 ?_
      refine r_iadd dX4_numberToken_35 ?_
      refine x_put (c := 4) (i := 0) (k := 7) hE (fun _ _ => rfl) dX4_numberToken_36 fp_RX4_83 (Nat.le_of_ble_eq_true rfl) rfl rfl (fun _ => Nat.le_of_ble_eq_true rfl) (fun _ _ => rfl) ?_
      refine r_iinc2 (w := (1 : Int32)) dX4_numberToken_39 rfl (by decide) (by decide) ?_
      refine r_goto (tgt := 10) dX4_numberToken_42 (by decide) ?_
      refine r_loc (L' := [(0, .ref (am 4 0)), (1, .int (l1 + (1 : Int32)))]) [1, 0] rfl ?_
      exact ih (xp σ 4 0 7 (((σ.1 4 0 7) * (10 : Int32)) + ((σ.2 28 0 (Int32.toNatClampNeg l1)) - (48 : Int32))))  (l1 + (1 : Int32)) (by exact i0) (by exact (Ct.up (by decide) i0 i1 (by with_reducible assumption)).2.1) (by have u := (Ct.up (by decide) i0 i1 (by with_reducible assumption)).2.2; omega) (by rw [f_X4_numberToken_L10, if_neg c1] at hK; exact hK)
def f_X4_numberToken (S : XSh) (σ : XSt)  : Int32 × XSt := (f_X4_numberToken_L10 (162) S (xp σ 4 0 7 (0 : Int32)) (σ.1 4 0 6))
set_option maxRecDepth 100000 in
set_option maxHeartbeats 1000000 in
theorem ok_X4_numberToken {g : GC} {B : hH} {am : XAd} {S : XSh} {d : Nat} (hE : XOk am S) (hX : GX g) (hd : 0 ≤ d) (σ : XSt)  (h0 : Ct (σ.1 4 0 4) 160) (h1 : Ct (σ.1 4 0 6) 160) : XC g B am S d yX4_numberToken cX4_numberToken 2 (some FieldType.int) [.ref (am 4 0)] (fun v σ' => v = some (.int (f_X4_numberToken S σ).1) ∧ σ' = (f_X4_numberToken S σ).2) σ := by
  refine AM.of2 (own := RX4) (nm := "numberToken") (L0 := [(0, .ref (am 4 0))]) (by decide) rfl rfl (Nat.le_of_ble_eq_true rfl) rfl ?_
  refine r_aload_n dX4_numberToken_0 rfl ?_
  refine r_iconst (v := (0 : Int32)) dX4_numberToken_1 (by decide) ?_
  refine x_put (c := 4) (i := 0) (k := 7) hE (fun _ _ => rfl) dX4_numberToken_2 fp_RX4_83 (Nat.le_of_ble_eq_true rfl) rfl rfl (fun _ => Nat.le_of_ble_eq_true rfl) (fun _ _ => rfl) ?_
  refine r_aload_n dX4_numberToken_5 rfl ?_
  refine x_getI (c := 4) (x := (σ.1 4 0 6)) hE (fun _ _ => rfl) (fun _ => rfl) dX4_numberToken_6 fl_RX4_86 (Nat.le_of_ble_eq_true rfl) (Eq.trans (xp_o (by decide)) rfl) ?_
  refine r_istore_n dX4_numberToken_9 (by decide) ?_
  refine r_loc (L' := [(0, .ref (am 4 0)), (1, .int (σ.1 4 0 6))]) [1, 0] rfl ?_
  exact lp_X4_numberToken_10 hE hX (by omega) (162) (xp σ 4 0 7 (0 : Int32)) (σ.1 4 0 6) (by exact h0) (by exact h1) (by omega) ⟨by rw [f_X4_numberToken], by rw [f_X4_numberToken]⟩

def WI (at' i : Int32) : Prop := ∃ a j : Nat, at' = nI a ∧ i = nI j ∧ j ≤ 56 ∧ a ≤ 160 + j
theorem WI.ct {a i : Int32} (h : WI a i) : Ct i 56 := by
  obtain ⟨x, j, -, h2, h3, -⟩ := h
  exact ⟨j, h3, h2⟩
theorem WI.ch {a i : Int32} (h : WI a i) (c : ¬ nI (sN 1) ≤ i) : i = nI i.toNatClampNeg ∧ i.toNatClampNeg < sN 1 := by
  obtain ⟨x, j, -, rfl, h3, -⟩ := h
  rw [nI_clamp (by omega)]
  refine ⟨rfl, ?_⟩
  rcases Nat.lt_or_ge j (sN 1) with q | q
  · exact q
  · exact absurd (nI_le q (by omega)) c
theorem WI.st {a i : Int32} (h : WI a i) (c : ¬ nI (sN 1) ≤ i) : WI (a + 1) (i + 1) ∧ 57 - (i + 1).toNatClampNeg < 57 - i.toNatClampNeg := by
  obtain ⟨x, j, rfl, rfl, h3, h4⟩ := h
  have hj : j < 56 := by
    rcases Nat.lt_or_ge j 56 with q | q
    · exact q
    · exact absurd (nI_le (a := sN 1) (show sN 1 ≤ j from q) (by omega)) c
  rw [nI_1, nI_1, nI_clamp (by omega), nI_clamp (by omega)]
  exact ⟨⟨x + 1, j + 1, rfl, rfl, by omega, by omega⟩, by omega⟩
theorem WI.s0 {a t i : Int32} (h : WI a i) (ht : Ct t 160) (c : ¬ nI (sN 1) ≤ i) : WI t (i + 1) := by
  obtain ⟨x, j, rfl, rfl, h3, h4⟩ := h
  obtain ⟨k, hk, rfl⟩ := ht
  have hj : j < 56 := by
    rcases Nat.lt_or_ge j 56 with q | q
    · exact q
    · exact absurd (nI_le (a := sN 1) (show sN 1 ≤ j from q) (by omega)) c
  exact ⟨k, j + 1, rfl, nI_1 j, by omega, by omega⟩
theorem WI.in {a i p : Int32} (h : WI a i) (hp : Ct p 160) (c : ¬ p ≤ a) : vp_in a 160 := by
  obtain ⟨x, j, rfl, -, h3, h4⟩ := h
  obtain ⟨k, hk, rfl⟩ := hp
  have : x < k := by
    rcases Nat.lt_or_ge x k with q | q
    · exact q
    · exact absurd (nI_le q (by omega)) c
  exact vp_in_nI (by omega) (by decide)
theorem WI.z {t : Int32} (ht : Ct t 160) : WI t 0 := by
  obtain ⟨k, hk, rfl⟩ := ht
  exact ⟨k, 0, rfl, rfl, by omega, by omega⟩
theorem c255 (x : Int32) : ¬ (Int32.toUInt32 (x &&& 255) % 65536).toInt32 < 0 ∧ ¬ 255 < (Int32.toUInt32 (x &&& 255) % 65536).toInt32 := by
  obtain ⟨j, hj, e⟩ := pk_andE x (m := 255) 8 (by decide)
  have e' : x &&& 255 = nI j := e
  rw [e']
  have key : ∀ j, j < 256 → ¬ (Int32.toUInt32 (nI j) % 65536).toInt32 < 0 ∧ ¬ 255 < (Int32.toUInt32 (nI j) % 65536).toInt32 := by decide +kernel
  exact key j (by omega)
theorem eo_ct {S : XSh} {σ : XSt} {s p : Int32} (h : Ct p 160) : Ct (f_X4_endOf S σ s p) 160 := by
  have key : ∀ (n : Nat) (l1 l2 l3 : Int32), Ct l3 160 → 161 - l3.toNatClampNeg < n → Ct (f_X4_endOf_L2 n S σ l1 l2 l3) 160 := by
    intro n
    induction n with
    | zero => intro l1 l2 l3 _ h; exact absurd h (Nat.not_lt_zero _)
    | succ n ih =>
      intro l1 l2 l3 hl hn
      unfold f_X4_endOf_L2
      (repeat' split) <;> first | exact hl | (have u := Ct.up (by decide) ct160 hl (by assumption); exact ih _ _ _ u.2.1 (by omega))
  unfold f_X4_endOf
  exact key _ _ _ _ h (by omega)
theorem Ct.xs {σ : XSt} {c i k N : Nat} {x : Int32} (h : Ct x N) : Ct ((xp σ c i k x).1 c i k) N := by rw [xp_s]; exact h
theorem Ct.xo {σ : XSt} {c i k c' i' k' N : Nat} {x : Int32} (q : ¬ (c' = c ∧ i' = i ∧ k' = k)) (h : Ct (σ.1 c' i' k') N) : Ct ((xp σ c i k x).1 c' i' k') N := by rw [xp_o q]; exact h
theorem Ct.lt2 {p z : Int32} (hz : Ct z 160) (hp : Ct p 160) (c : ¬ z ≤ p) : vp_in p 160 ∧ Ct (p + 1) 160 := by
  have u := Ct.up (by decide) hz hp c
  exact ⟨u.1, u.2.1⟩

def f_X4_wordToken_L12 : Nat → XSh → XSt → Int32 → Int32 → Int32 → Int32 → Int32
  | 0, _, _, _, _, _, _ => 0
  | n + 1, S, σ, l1, l2, l3, l4 => (if (nI (sN 1)) ≤ l4 then (14 : Int32) else (if (sB 1 (Int32.toNatClampNeg l4)) = (32 : Int32) then (if l3 = 0 then (f_X4_wordToken_L12 n S σ (l1 + (1 : Int32)) (σ.1 4 0 6) (1 : Int32) (l4 + (1 : Int32))) else (if l2 = (σ.1 4 0 4) then l1 else (f_X4_wordToken_L12 n S σ (l1 + (1 : Int32)) (σ.1 4 0 6) (1 : Int32) (l4 + (1 : Int32))))) else (if l3 = 0 then (f_X4_wordToken_L12 n S σ l1 (l2 + (1 : Int32)) (0 : Int32) (l4 + (1 : Int32))) else (if (σ.1 4 0 4) ≤ l2 then (f_X4_wordToken_L12 n S σ l1 (l2 + (1 : Int32)) (0 : Int32) (l4 + (1 : Int32))) else (if (σ.2 28 0 (Int32.toNatClampNeg l2)) = (sB 1 (Int32.toNatClampNeg l4)) then (f_X4_wordToken_L12 n S σ l1 (l2 + (1 : Int32)) (1 : Int32) (l4 + (1 : Int32))) else (f_X4_wordToken_L12 n S σ l1 (l2 + (1 : Int32)) (0 : Int32) (l4 + (1 : Int32))))))))
set_option maxRecDepth 100000 in
set_option maxHeartbeats 1000000 in
theorem lp_X4_wordToken_12 {g : GC} {B : hH} {am : XAd} {S : XSh} {d : Nat} {K : Option Value → XSt → Prop} (hE : XOk am S) (hX : GX g) (hd : 4 ≤ d) : ∀ (fuel : Nat) (σ : XSt) (l1 : Int32) (l2 : Int32) (l3 : Int32) (l4 : Int32), Ct (σ.1 4 0 4) 160 → Ct (σ.1 4 0 6) 160 → WI l2 l4 → 57 - l4.toNatClampNeg < fuel → K (some (.int (f_X4_wordToken_L12 fuel S σ l1 l2 l3 l4))) σ → XW g B am S RX4 cX4_wordToken 6 (some FieldType.int) "wordToken" d K 12 [(0, .ref (am 4 0)), (1, .int l1), (2, .int l2), (3, .int l3), (4, .int l4)] [] σ := by
  intro fuel
  induction fuel with
  | zero => intro σ l1 l2 l3 l4 i0 i1 i2 hm hK; exact absurd hm (Nat.not_lt_zero _)
  | succ n ih =>
    intro σ l1 l2 l3 l4 i0 i1 i2 hm hK
    refine r_iload dX4_wordToken_12 rfl ?_
    obtain ⟨s1, s1v, s1s, s1r⟩ := hX.str 1 (by decide)
    refine r_ldcS dX4_wordToken_14 s1r ?_
    refine s_len dX4_wordToken_16 ml_RX4_113 hX s1s (by decide) (Nat.le_of_ble_eq_true rfl) (by omega) ?_
    refine r_icmp_ge (tgt := 103) dX4_wordToken_19 (by decide) (fun c2 => ?_) (fun c2 => ?_)
    · refine r_bipush (v := (14 : Int32)) dX4_wordToken_103 (by decide) ?_
      refine r_iret dX4_wordToken_105 rfl rfl ?_
      exact ⟨_, rfl, by rw [f_X4_wordToken_L12, if_pos c2] at hK; exact hK⟩
    · obtain ⟨s3, s3v, s3s, s3r⟩ := hX.str 1 (by decide)
      refine r_ldcS dX4_wordToken_22 s3r ?_
      refine r_iload dX4_wordToken_24 rfl ?_
      refine s_char (j := (Int32.toNatClampNeg l4)) dX4_wordToken_26 ml_RX4_116 hX s3s (by decide) (i2.ch (by with_reducible assumption)).1 (i2.ch (by with_reducible assumption)).2 (Nat.le_of_ble_eq_true rfl) (by omega) ?_
      refine r_istore dX4_wordToken_29 (by decide) ?_
      refine r_iload dX4_wordToken_31 rfl ?_
      refine r_bipush (v := (32 : Int32)) dX4_wordToken_33 (by decide) ?_
      refine r_icmp_eq (tgt := 73) dX4_wordToken_35 (by decide) (fun c4 => ?_) (fun c4 => ?_)
      · refine r_iload_n dX4_wordToken_73 rfl ?_
        refine r_if_eq (tgt := 87) dX4_wordToken_74 (by decide) (fun c5 => ?_) (fun c5 => ?_)
        · refine r_iinc2 (w := (1 : Int32)) dX4_wordToken_87 rfl (by decide) (by decide) ?_
          refine r_aload_n dX4_wordToken_90 rfl ?_
          refine x_getI (c := 4) (x := (σ.1 4 0 6)) hE (fun _ _ => rfl) (fun _ => rfl) dX4_wordToken_91 fl_RX4_86 (Nat.le_of_ble_eq_true rfl) rfl ?_
          refine r_istore_n dX4_wordToken_94 (by decide) ?_
          refine r_iconst (v := (1 : Int32)) dX4_wordToken_95 (by decide) ?_
          refine r_istore_n dX4_wordToken_96 (by decide) ?_
          refine r_iinc2 (w := (1 : Int32)) dX4_wordToken_97 rfl (by decide) (by decide) ?_
          refine r_goto (tgt := 12) dX4_wordToken_100 (by decide) ?_
          refine r_loc (L' := [(0, .ref (am 4 0)), (1, .int (l1 + (1 : Int32))), (2, .int (σ.1 4 0 6)), (3, .int (1 : Int32)), (4, .int (l4 + (1 : Int32)))]) [5, 3, 2, 1, 0] rfl ?_
          exact ih σ  (l1 + (1 : Int32)) (σ.1 4 0 6) (1 : Int32) (l4 + (1 : Int32)) (by exact i0) (by exact i1) (by first | with_reducible exact (i2.st (by with_reducible assumption)).1 | with_reducible exact i2.s0 i1 (by with_reducible assumption)) (by have u := (i2.st (by with_reducible assumption)).2; omega) (by rw [f_X4_wordToken_L12, if_neg c2, if_pos c4, if_pos c5] at hK; exact hK)
        · refine r_iload_n dX4_wordToken_77 rfl ?_
          refine r_aload_n dX4_wordToken_78 rfl ?_
          refine x_getI (c := 4) (x := (σ.1 4 0 4)) hE (fun _ _ => rfl) (fun _ => rfl) dX4_wordToken_79 fl_RX4_26 (Nat.le_of_ble_eq_true rfl) rfl ?_
          refine r_icmp_ne (tgt := 87) dX4_wordToken_82 (by decide) (fun c6 => ?_) (fun c6 => ?_)
          · refine r_iinc2 (w := (1 : Int32)) dX4_wordToken_87 rfl (by decide) (by decide) ?_
            refine r_aload_n dX4_wordToken_90 rfl ?_
            refine x_getI (c := 4) (x := (σ.1 4 0 6)) hE (fun _ _ => rfl) (fun _ => rfl) dX4_wordToken_91 fl_RX4_86 (Nat.le_of_ble_eq_true rfl) rfl ?_
            refine r_istore_n dX4_wordToken_94 (by decide) ?_
            refine r_iconst (v := (1 : Int32)) dX4_wordToken_95 (by decide) ?_
            refine r_istore_n dX4_wordToken_96 (by decide) ?_
            refine r_iinc2 (w := (1 : Int32)) dX4_wordToken_97 rfl (by decide) (by decide) ?_
            refine r_goto (tgt := 12) dX4_wordToken_100 (by decide) ?_
            refine r_loc (L' := [(0, .ref (am 4 0)), (1, .int (l1 + (1 : Int32))), (2, .int (σ.1 4 0 6)), (3, .int (1 : Int32)), (4, .int (l4 + (1 : Int32)))]) [5, 3, 2, 1, 0] rfl ?_
            exact ih σ  (l1 + (1 : Int32)) (σ.1 4 0 6) (1 : Int32) (l4 + (1 : Int32)) (by exact i0) (by exact i1) (by first | with_reducible exact (i2.st (by with_reducible assumption)).1 | with_reducible exact i2.s0 i1 (by with_reducible assumption)) (by have u := (i2.st (by with_reducible assumption)).2; omega) (by rw [f_X4_wordToken_L12, if_neg c2, if_pos c4, if_neg c5, if_neg c6] at hK; exact hK)
          · refine r_iload_n dX4_wordToken_85 rfl ?_
            refine r_iret dX4_wordToken_86 rfl rfl ?_
            exact ⟨_, rfl, by rw [f_X4_wordToken_L12, if_neg c2, if_pos c4, if_neg c5, if_pos c6] at hK; exact hK⟩
      · refine r_iload_n dX4_wordToken_38 rfl ?_
        refine r_if_eq (tgt := 65) dX4_wordToken_39 (by decide) (fun c7 => ?_) (fun c7 => ?_)
        · refine r_iconst (v := (0 : Int32)) dX4_wordToken_65 (by decide) ?_
          refine r_istore_n dX4_wordToken_66 (by decide) ?_
          refine r_iinc2 (w := (1 : Int32)) dX4_wordToken_67 rfl (by decide) (by decide) ?_
          refine r_goto (tgt := 97) dX4_wordToken_70 (by decide) ?_
          refine r_iinc2 (w := (1 : Int32)) dX4_wordToken_97 rfl (by decide) (by decide) ?_
          refine r_goto (tgt := 12) dX4_wordToken_100 (by decide) ?_
          refine r_loc (L' := [(0, .ref (am 4 0)), (1, .int l1), (2, .int (l2 + (1 : Int32))), (3, .int (0 : Int32)), (4, .int (l4 + (1 : Int32)))]) [4, 5, 1, 2, 0] rfl ?_
          exact ih σ  l1 (l2 + (1 : Int32)) (0 : Int32) (l4 + (1 : Int32)) (by exact i0) (by exact i1) (by first | with_reducible exact (i2.st (by with_reducible assumption)).1 | with_reducible exact i2.s0 i1 (by with_reducible assumption)) (by have u := (i2.st (by with_reducible assumption)).2; omega) (by rw [f_X4_wordToken_L12, if_neg c2, if_neg c4, if_pos c7] at hK; exact hK)
        · refine r_iload_n dX4_wordToken_42 rfl ?_
          refine r_aload_n dX4_wordToken_43 rfl ?_
          refine x_getI (c := 4) (x := (σ.1 4 0 4)) hE (fun _ _ => rfl) (fun _ => rfl) dX4_wordToken_44 fl_RX4_26 (Nat.le_of_ble_eq_true rfl) rfl ?_
          refine r_icmp_ge (tgt := 65) dX4_wordToken_47 (by decide) (fun c8 => ?_) (fun c8 => ?_)
          · refine r_iconst (v := (0 : Int32)) dX4_wordToken_65 (by decide) ?_
            refine r_istore_n dX4_wordToken_66 (by decide) ?_
            refine r_iinc2 (w := (1 : Int32)) dX4_wordToken_67 rfl (by decide) (by decide) ?_
            refine r_goto (tgt := 97) dX4_wordToken_70 (by decide) ?_
            refine r_iinc2 (w := (1 : Int32)) dX4_wordToken_97 rfl (by decide) (by decide) ?_
            refine r_goto (tgt := 12) dX4_wordToken_100 (by decide) ?_
            refine r_loc (L' := [(0, .ref (am 4 0)), (1, .int l1), (2, .int (l2 + (1 : Int32))), (3, .int (0 : Int32)), (4, .int (l4 + (1 : Int32)))]) [4, 5, 1, 2, 0] rfl ?_
            exact ih σ  l1 (l2 + (1 : Int32)) (0 : Int32) (l4 + (1 : Int32)) (by exact i0) (by exact i1) (by first | with_reducible exact (i2.st (by with_reducible assumption)).1 | with_reducible exact i2.s0 i1 (by with_reducible assumption)) (by have u := (i2.st (by with_reducible assumption)).2; omega) (by rw [f_X4_wordToken_L12, if_neg c2, if_neg c4, if_neg c7, if_pos c8] at hK; exact hK)
          · refine r_aload_n dX4_wordToken_50 rfl ?_
            refine x_get (c := 4) hE (fun _ _ => rfl) dX4_wordToken_51 fl_RX4_9 (Nat.le_of_ble_eq_true rfl) rfl ?_
            refine r_iload_n dX4_wordToken_54 rfl ?_
            refine x_baldV (c := 28) (i := 0) (N := 160) (x := (σ.2 28 0 (Int32.toNatClampNeg l2))) hE (fun _ _ => rfl) dX4_wordToken_55 (Nat.le_of_ble_eq_true rfl) (by exact i2.in i0 (by with_reducible assumption)) rfl ?_
            refine r_iload dX4_wordToken_56 rfl ?_
            refine r_icmp_ne (tgt := 65) dX4_wordToken_58 (by decide) (fun c9 => ?_) (fun c9 => ?_)
            · refine r_iconst (v := (0 : Int32)) dX4_wordToken_65 (by decide) ?_
              refine r_istore_n dX4_wordToken_66 (by decide) ?_
              refine r_iinc2 (w := (1 : Int32)) dX4_wordToken_67 rfl (by decide) (by decide) ?_
              refine r_goto (tgt := 97) dX4_wordToken_70 (by decide) ?_
              refine r_iinc2 (w := (1 : Int32)) dX4_wordToken_97 rfl (by decide) (by decide) ?_
              refine r_goto (tgt := 12) dX4_wordToken_100 (by decide) ?_
              refine r_loc (L' := [(0, .ref (am 4 0)), (1, .int l1), (2, .int (l2 + (1 : Int32))), (3, .int (0 : Int32)), (4, .int (l4 + (1 : Int32)))]) [4, 5, 1, 2, 0] rfl ?_
              exact ih σ  l1 (l2 + (1 : Int32)) (0 : Int32) (l4 + (1 : Int32)) (by exact i0) (by exact i1) (by first | with_reducible exact (i2.st (by with_reducible assumption)).1 | with_reducible exact i2.s0 i1 (by with_reducible assumption)) (by have u := (i2.st (by with_reducible assumption)).2; omega) (by rw [f_X4_wordToken_L12, if_neg c2, if_neg c4, if_neg c7, if_neg c8, if_neg c9] at hK; exact hK)
            · refine r_iconst (v := (1 : Int32)) dX4_wordToken_61 (by decide) ?_
              refine r_goto (tgt := 66) dX4_wordToken_62 (by decide) ?_
              refine r_istore_n dX4_wordToken_66 (by decide) ?_
              refine r_iinc2 (w := (1 : Int32)) dX4_wordToken_67 rfl (by decide) (by decide) ?_
              refine r_goto (tgt := 97) dX4_wordToken_70 (by decide) ?_
              refine r_iinc2 (w := (1 : Int32)) dX4_wordToken_97 rfl (by decide) (by decide) ?_
              refine r_goto (tgt := 12) dX4_wordToken_100 (by decide) ?_
              refine r_loc (L' := [(0, .ref (am 4 0)), (1, .int l1), (2, .int (l2 + (1 : Int32))), (3, .int (1 : Int32)), (4, .int (l4 + (1 : Int32)))]) [4, 5, 1, 2, 0] rfl ?_
              exact ih σ  l1 (l2 + (1 : Int32)) (1 : Int32) (l4 + (1 : Int32)) (by exact i0) (by exact i1) (by first | with_reducible exact (i2.st (by with_reducible assumption)).1 | with_reducible exact i2.s0 i1 (by with_reducible assumption)) (by have u := (i2.st (by with_reducible assumption)).2; omega) (by rw [f_X4_wordToken_L12, if_neg c2, if_neg c4, if_neg c7, if_neg c8, if_pos c9] at hK; exact hK)
def f_X4_wordToken (S : XSh) (σ : XSt)  : Int32 := (f_X4_wordToken_L12 (58) S σ (0 : Int32) (σ.1 4 0 6) (1 : Int32) (0 : Int32))
set_option maxRecDepth 100000 in
set_option maxHeartbeats 1000000 in
theorem ok_X4_wordToken {g : GC} {B : hH} {am : XAd} {S : XSh} {d : Nat} (hE : XOk am S) (hX : GX g) (hd : 4 ≤ d) (σ : XSt)  (h0 : Ct (σ.1 4 0 4) 160) (h1 : Ct (σ.1 4 0 6) 160) : XC g B am S d yX4_wordToken cX4_wordToken 6 (some FieldType.int) [.ref (am 4 0)] (fun v σ' => v = some (.int (f_X4_wordToken S σ)) ∧ σ' = σ) σ := by
  refine AM.of2 (own := RX4) (nm := "wordToken") (L0 := [(0, .ref (am 4 0))]) (by decide) rfl rfl (Nat.le_of_ble_eq_true rfl) rfl ?_
  refine r_iconst (v := (0 : Int32)) dX4_wordToken_0 (by decide) ?_
  refine r_istore_n dX4_wordToken_1 (by decide) ?_
  refine r_aload_n dX4_wordToken_2 rfl ?_
  refine x_getI (c := 4) (x := (σ.1 4 0 6)) hE (fun _ _ => rfl) (fun _ => rfl) dX4_wordToken_3 fl_RX4_86 (Nat.le_of_ble_eq_true rfl) rfl ?_
  refine r_istore_n dX4_wordToken_6 (by decide) ?_
  refine r_iconst (v := (1 : Int32)) dX4_wordToken_7 (by decide) ?_
  refine r_istore_n dX4_wordToken_8 (by decide) ?_
  refine r_iconst (v := (0 : Int32)) dX4_wordToken_9 (by decide) ?_
  refine r_istore dX4_wordToken_10 (by decide) ?_
  refine r_loc (L' := [(0, .ref (am 4 0)), (1, .int (0 : Int32)), (2, .int (σ.1 4 0 6)), (3, .int (1 : Int32)), (4, .int (0 : Int32))]) [4, 3, 2, 1, 0] rfl ?_
  exact lp_X4_wordToken_12 hE hX (by omega) (58) σ (0 : Int32) (σ.1 4 0 6) (1 : Int32) (0 : Int32) (by exact h0) (by exact h1) (by exact WI.z h1) (by omega) ⟨by rw [f_X4_wordToken], rfl⟩

def f_X4_next (S : XSh) (σ : XSt)  : XSt := (if (f_X4_endOf S σ (32 : Int32) (σ.1 4 0 4)) < (σ.1 4 0 2) then (if (f_X4_sortOf ((σ.2 28 0 (Int32.toNatClampNeg (f_X4_endOf S σ (32 : Int32) (σ.1 4 0 4)))) &&& (255 : Int32))) = (97 : Int32) then (if (f_X4_sortOf ((σ.2 28 0 (Int32.toNatClampNeg (f_X4_endOf S σ (32 : Int32) (σ.1 4 0 4)))) &&& (255 : Int32))) = (97 : Int32) then (xp (xp (xp (xp σ 4 0 4 (f_X4_endOf S σ (32 : Int32) (σ.1 4 0 4))) 4 0 6 (f_X4_endOf S σ (32 : Int32) (σ.1 4 0 4))) 4 0 4 (f_X4_endOf S (xp (xp σ 4 0 4 (f_X4_endOf S σ (32 : Int32) (σ.1 4 0 4))) 4 0 6 (f_X4_endOf S σ (32 : Int32) (σ.1 4 0 4))) (f_X4_sortOf ((σ.2 28 0 (Int32.toNatClampNeg (f_X4_endOf S σ (32 : Int32) (σ.1 4 0 4)))) &&& (255 : Int32))) (f_X4_endOf S σ (32 : Int32) (σ.1 4 0 4)))) 4 0 5 (f_X4_wordToken S (xp (xp (xp σ 4 0 4 (f_X4_endOf S σ (32 : Int32) (σ.1 4 0 4))) 4 0 6 (f_X4_endOf S σ (32 : Int32) (σ.1 4 0 4))) 4 0 4 (f_X4_endOf S (xp (xp σ 4 0 4 (f_X4_endOf S σ (32 : Int32) (σ.1 4 0 4))) 4 0 6 (f_X4_endOf S σ (32 : Int32) (σ.1 4 0 4))) (f_X4_sortOf ((σ.2 28 0 (Int32.toNatClampNeg (f_X4_endOf S σ (32 : Int32) (σ.1 4 0 4)))) &&& (255 : Int32))) (f_X4_endOf S σ (32 : Int32) (σ.1 4 0 4)))))) else (xp (f_X4_numberToken S (xp (xp (xp σ 4 0 4 (f_X4_endOf S σ (32 : Int32) (σ.1 4 0 4))) 4 0 6 (f_X4_endOf S σ (32 : Int32) (σ.1 4 0 4))) 4 0 4 (f_X4_endOf S (xp (xp σ 4 0 4 (f_X4_endOf S σ (32 : Int32) (σ.1 4 0 4))) 4 0 6 (f_X4_endOf S σ (32 : Int32) (σ.1 4 0 4))) (f_X4_sortOf ((σ.2 28 0 (Int32.toNatClampNeg (f_X4_endOf S σ (32 : Int32) (σ.1 4 0 4)))) &&& (255 : Int32))) (f_X4_endOf S σ (32 : Int32) (σ.1 4 0 4))))).2 4 0 5 (f_X4_numberToken S (xp (xp (xp σ 4 0 4 (f_X4_endOf S σ (32 : Int32) (σ.1 4 0 4))) 4 0 6 (f_X4_endOf S σ (32 : Int32) (σ.1 4 0 4))) 4 0 4 (f_X4_endOf S (xp (xp σ 4 0 4 (f_X4_endOf S σ (32 : Int32) (σ.1 4 0 4))) 4 0 6 (f_X4_endOf S σ (32 : Int32) (σ.1 4 0 4))) (f_X4_sortOf ((σ.2 28 0 (Int32.toNatClampNeg (f_X4_endOf S σ (32 : Int32) (σ.1 4 0 4)))) &&& (255 : Int32))) (f_X4_endOf S σ (32 : Int32) (σ.1 4 0 4))))).1)) else (if (f_X4_sortOf ((σ.2 28 0 (Int32.toNatClampNeg (f_X4_endOf S σ (32 : Int32) (σ.1 4 0 4)))) &&& (255 : Int32))) = (48 : Int32) then (if (f_X4_sortOf ((σ.2 28 0 (Int32.toNatClampNeg (f_X4_endOf S σ (32 : Int32) (σ.1 4 0 4)))) &&& (255 : Int32))) = (97 : Int32) then (xp (xp (xp (xp σ 4 0 4 (f_X4_endOf S σ (32 : Int32) (σ.1 4 0 4))) 4 0 6 (f_X4_endOf S σ (32 : Int32) (σ.1 4 0 4))) 4 0 4 (f_X4_endOf S (xp (xp σ 4 0 4 (f_X4_endOf S σ (32 : Int32) (σ.1 4 0 4))) 4 0 6 (f_X4_endOf S σ (32 : Int32) (σ.1 4 0 4))) (f_X4_sortOf ((σ.2 28 0 (Int32.toNatClampNeg (f_X4_endOf S σ (32 : Int32) (σ.1 4 0 4)))) &&& (255 : Int32))) (f_X4_endOf S σ (32 : Int32) (σ.1 4 0 4)))) 4 0 5 (f_X4_wordToken S (xp (xp (xp σ 4 0 4 (f_X4_endOf S σ (32 : Int32) (σ.1 4 0 4))) 4 0 6 (f_X4_endOf S σ (32 : Int32) (σ.1 4 0 4))) 4 0 4 (f_X4_endOf S (xp (xp σ 4 0 4 (f_X4_endOf S σ (32 : Int32) (σ.1 4 0 4))) 4 0 6 (f_X4_endOf S σ (32 : Int32) (σ.1 4 0 4))) (f_X4_sortOf ((σ.2 28 0 (Int32.toNatClampNeg (f_X4_endOf S σ (32 : Int32) (σ.1 4 0 4)))) &&& (255 : Int32))) (f_X4_endOf S σ (32 : Int32) (σ.1 4 0 4)))))) else (xp (f_X4_numberToken S (xp (xp (xp σ 4 0 4 (f_X4_endOf S σ (32 : Int32) (σ.1 4 0 4))) 4 0 6 (f_X4_endOf S σ (32 : Int32) (σ.1 4 0 4))) 4 0 4 (f_X4_endOf S (xp (xp σ 4 0 4 (f_X4_endOf S σ (32 : Int32) (σ.1 4 0 4))) 4 0 6 (f_X4_endOf S σ (32 : Int32) (σ.1 4 0 4))) (f_X4_sortOf ((σ.2 28 0 (Int32.toNatClampNeg (f_X4_endOf S σ (32 : Int32) (σ.1 4 0 4)))) &&& (255 : Int32))) (f_X4_endOf S σ (32 : Int32) (σ.1 4 0 4))))).2 4 0 5 (f_X4_numberToken S (xp (xp (xp σ 4 0 4 (f_X4_endOf S σ (32 : Int32) (σ.1 4 0 4))) 4 0 6 (f_X4_endOf S σ (32 : Int32) (σ.1 4 0 4))) 4 0 4 (f_X4_endOf S (xp (xp σ 4 0 4 (f_X4_endOf S σ (32 : Int32) (σ.1 4 0 4))) 4 0 6 (f_X4_endOf S σ (32 : Int32) (σ.1 4 0 4))) (f_X4_sortOf ((σ.2 28 0 (Int32.toNatClampNeg (f_X4_endOf S σ (32 : Int32) (σ.1 4 0 4)))) &&& (255 : Int32))) (f_X4_endOf S σ (32 : Int32) (σ.1 4 0 4))))).1)) else (if (ixL (Int8.toInt32 (Int32.toInt8 (((Int32.toUInt32 ((σ.2 28 0 (Int32.toNatClampNeg (f_X4_endOf S σ (32 : Int32) (σ.1 4 0 4)))) &&& (255 : Int32))) % 65536).toInt32))) 8 0) < 0 then (xp (xp (xp (xp σ 4 0 4 (f_X4_endOf S σ (32 : Int32) (σ.1 4 0 4))) 4 0 6 (f_X4_endOf S σ (32 : Int32) (σ.1 4 0 4))) 4 0 4 ((f_X4_endOf S σ (32 : Int32) (σ.1 4 0 4)) + (1 : Int32))) 4 0 5 (14 : Int32)) else (xp (xp (xp (xp σ 4 0 4 (f_X4_endOf S σ (32 : Int32) (σ.1 4 0 4))) 4 0 6 (f_X4_endOf S σ (32 : Int32) (σ.1 4 0 4))) 4 0 4 ((f_X4_endOf S σ (32 : Int32) (σ.1 4 0 4)) + (1 : Int32))) 4 0 5 ((σ.2 28 0 (Int32.toNatClampNeg (f_X4_endOf S σ (32 : Int32) (σ.1 4 0 4)))) &&& (255 : Int32)))))) else (xp (xp (xp σ 4 0 4 (f_X4_endOf S σ (32 : Int32) (σ.1 4 0 4))) 4 0 6 (f_X4_endOf S σ (32 : Int32) (σ.1 4 0 4))) 4 0 5 (13 : Int32)))
set_option maxRecDepth 100000 in
set_option maxHeartbeats 1000000 in
theorem ok_X4_next {g : GC} {B : hH} {am : XAd} {S : XSh} {d : Nat} (hE : XOk am S) (hX : GX g) (hd : 5 ≤ d) (σ : XSt)  (h0 : Ct (σ.1 4 0 2) 160) (h1 : Ct (σ.1 4 0 4) 160) : XC g B am S d yX4_next cX4_next 3 none [.ref (am 4 0)] (fun v σ' => v = none ∧ σ' = (f_X4_next S σ)) σ := by
  refine AM.of2 (own := RX4) (nm := "next") (L0 := [(0, .ref (am 4 0))]) (by decide) rfl rfl (Nat.le_of_ble_eq_true rfl) rfl ?_
  refine r_aload_n dX4_next_0 rfl ?_
  refine r_aload_n dX4_next_1 rfl ?_
  refine r_bipush (v := (32 : Int32)) dX4_next_2 (by decide) ?_
  refine r_aload_n dX4_next_4 rfl ?_
  refine x_getI (c := 4) (x := (σ.1 4 0 4)) hE (fun _ _ => rfl) (fun _ => rfl) dX4_next_5 fl_RX4_26 (Nat.le_of_ble_eq_true rfl) rfl ?_
  refine x_callW (c := 4) (i := 0) hE (fun _ _ => rfl) (Nat.le_of_ble_eq_true rfl) dX4_next_8 mf_X4_endOf ml_RX4_89 (ok_X4_endOf (d := d - 1) hE hX (by omega) _ _ _ (by first | with_reducible exact (Ct.lt2 h0 (eo_ct h1) (Int32.not_le.mpr (by with_reducible assumption))).1 | (repeat first | with_reducible exact h1 | with_reducible exact h0 | with_reducible refine Ct.xs ?_ | with_reducible refine Ct.xo (by decide) ?_ | with_reducible refine eo_ct ?_))) rfl rfl rfl rfl (Nat.le_of_ble_eq_true rfl) (by omega) ?_
  refine x_put (c := 4) (i := 0) (k := 4) hE (fun _ _ => rfl) dX4_next_11 fp_RX4_26 (Nat.le_of_ble_eq_true rfl) rfl rfl (fun _ => Nat.le_of_ble_eq_true rfl) (fun _ _ => rfl) ?_
  refine r_aload_n dX4_next_14 rfl ?_
  refine r_aload_n dX4_next_15 rfl ?_
  refine x_getI (c := 4) (x := (f_X4_endOf S σ (32 : Int32) (σ.1 4 0 4))) hE (fun _ _ => rfl) (fun _ => rfl) dX4_next_16 fl_RX4_26 (Nat.le_of_ble_eq_true rfl) (xp_s _ _ _ _ _) ?_
  refine x_put (c := 4) (i := 0) (k := 6) hE (fun _ _ => rfl) dX4_next_19 fp_RX4_86 (Nat.le_of_ble_eq_true rfl) rfl rfl (fun _ => Nat.le_of_ble_eq_true rfl) (fun _ _ => rfl) ?_
  refine r_aload_n dX4_next_22 rfl ?_
  refine x_getI (c := 4) (x := (f_X4_endOf S σ (32 : Int32) (σ.1 4 0 4))) hE (fun _ _ => rfl) (fun _ => rfl) dX4_next_23 fl_RX4_26 (Nat.le_of_ble_eq_true rfl) (Eq.trans (xp_o (by decide)) (xp_s _ _ _ _ _)) ?_
  refine r_aload_n dX4_next_26 rfl ?_
  refine x_getI (c := 4) (x := (σ.1 4 0 2)) hE (fun _ _ => rfl) (fun _ => rfl) dX4_next_27 fl_RX4_23 (Nat.le_of_ble_eq_true rfl) (Eq.trans (xp_o (by decide)) (Eq.trans (xp_o (by decide)) rfl)) ?_
  refine r_icmp_lt (tgt := 40) dX4_next_30 (by decide) (fun c1 => ?_) (fun c1 => ?_)
  · refine r_aload_n dX4_next_40 rfl ?_
    refine x_get (c := 4) hE (fun _ _ => rfl) dX4_next_41 fl_RX4_9 (Nat.le_of_ble_eq_true rfl) rfl ?_
    refine r_aload_n dX4_next_44 rfl ?_
    refine x_getI (c := 4) (x := (f_X4_endOf S σ (32 : Int32) (σ.1 4 0 4))) hE (fun _ _ => rfl) (fun _ => rfl) dX4_next_45 fl_RX4_26 (Nat.le_of_ble_eq_true rfl) (Eq.trans (xp_o (by decide)) (xp_s _ _ _ _ _)) ?_
    refine x_baldV (c := 28) (i := 0) (N := 160) (x := (σ.2 28 0 (Int32.toNatClampNeg (f_X4_endOf S σ (32 : Int32) (σ.1 4 0 4))))) hE (fun _ _ => rfl) dX4_next_48 (Nat.le_of_ble_eq_true rfl) (by first | with_reducible exact (Ct.lt2 h0 (eo_ct h1) (Int32.not_le.mpr (by with_reducible assumption))).1 | (repeat first | with_reducible exact h1 | with_reducible exact h0 | with_reducible refine Ct.xs ?_ | with_reducible refine Ct.xo (by decide) ?_ | with_reducible refine eo_ct ?_)) (Eq.trans xp_g (Eq.trans xp_g rfl)) ?_
    refine r_sipush (v := (255 : Int32)) dX4_next_49 (by decide) ?_
    refine r_iand dX4_next_52 ?_
    refine r_istore_n dX4_next_53 (by decide) ?_
    refine r_iload_n dX4_next_54 rfl ?_
    refine r_callS0 dX4_next_55 mf_X4_sortOf ml_RX4_93 (ok_X4_sortOf (d := d - 1) (by omega) _) rfl rfl (Nat.le_of_ble_eq_true rfl) (by omega) ?_
    refine r_istore_n dX4_next_58 (by decide) ?_
    refine r_iload_n dX4_next_59 rfl ?_
    refine r_bipush (v := (97 : Int32)) dX4_next_60 (by decide) ?_
    refine r_icmp_eq (tgt := 71) dX4_next_62 (by decide) (fun c2 => ?_) (fun c2 => ?_)
    · refine r_aload_n dX4_next_71 rfl ?_
      refine r_aload_n dX4_next_72 rfl ?_
      refine r_iload_n dX4_next_73 rfl ?_
      refine r_aload_n dX4_next_74 rfl ?_
      refine x_getI (c := 4) (x := (f_X4_endOf S σ (32 : Int32) (σ.1 4 0 4))) hE (fun _ _ => rfl) (fun _ => rfl) dX4_next_75 fl_RX4_26 (Nat.le_of_ble_eq_true rfl) (Eq.trans (xp_o (by decide)) (xp_s _ _ _ _ _)) ?_
      refine x_callW (c := 4) (i := 0) hE (fun _ _ => rfl) (Nat.le_of_ble_eq_true rfl) dX4_next_78 mf_X4_endOf ml_RX4_89 (ok_X4_endOf (d := d - 1) hE hX (by omega) _ _ _ (by first | with_reducible exact (Ct.lt2 h0 (eo_ct h1) (Int32.not_le.mpr (by with_reducible assumption))).1 | (repeat first | with_reducible exact h1 | with_reducible exact h0 | with_reducible refine Ct.xs ?_ | with_reducible refine Ct.xo (by decide) ?_ | with_reducible refine eo_ct ?_))) rfl rfl rfl rfl (Nat.le_of_ble_eq_true rfl) (by omega) ?_
      refine x_put (c := 4) (i := 0) (k := 4) hE (fun _ _ => rfl) dX4_next_81 fp_RX4_26 (Nat.le_of_ble_eq_true rfl) rfl rfl (fun _ => Nat.le_of_ble_eq_true rfl) (fun _ _ => rfl) ?_
      refine r_aload_n dX4_next_84 rfl ?_
      refine r_iload_n dX4_next_85 rfl ?_
      refine r_bipush (v := (97 : Int32)) dX4_next_86 (by decide) ?_
      refine r_icmp_ne (tgt := 98) dX4_next_88 (by decide) (fun c3 => ?_) (fun c3 => ?_)
      · refine r_aload_n dX4_next_98 rfl ?_
        refine x_callW (c := 4) (i := 0) hE (fun _ _ => rfl) (Nat.le_of_ble_eq_true rfl) dX4_next_99 mf_X4_numberToken ml_RX4_101 (ok_X4_numberToken (d := d - 1) hE hX (by omega) _ (by first | with_reducible exact (Ct.lt2 h0 (eo_ct h1) (Int32.not_le.mpr (by with_reducible assumption))).1 | (repeat first | with_reducible exact h1 | with_reducible exact h0 | with_reducible refine Ct.xs ?_ | with_reducible refine Ct.xo (by decide) ?_ | with_reducible refine eo_ct ?_)) (by first | with_reducible exact (Ct.lt2 h0 (eo_ct h1) (Int32.not_le.mpr (by with_reducible assumption))).1 | (repeat first | with_reducible exact h1 | with_reducible exact h0 | with_reducible refine Ct.xs ?_ | with_reducible refine Ct.xo (by decide) ?_ | with_reducible refine eo_ct ?_))) rfl rfl rfl rfl (Nat.le_of_ble_eq_true rfl) (by omega) ?_
        refine x_put (c := 4) (i := 0) (k := 5) hE (fun _ _ => rfl) dX4_next_102 fp_RX4_59 (Nat.le_of_ble_eq_true rfl) rfl rfl (fun _ => Nat.le_of_ble_eq_true rfl) (fun _ _ => rfl) ?_
        refine r_goto (tgt := 138) dX4_next_105 (by decide) ?_
        refine r_vret dX4_next_138 rfl ?_
        exact ⟨_, rfl, by rfl, by rw [f_X4_next, if_pos c1, if_pos c2, if_neg c3]⟩
      · refine r_aload_n dX4_next_91 rfl ?_
        refine x_callW (c := 4) (i := 0) hE (fun _ _ => rfl) (Nat.le_of_ble_eq_true rfl) dX4_next_92 mf_X4_wordToken ml_RX4_97 (ok_X4_wordToken (d := d - 1) hE hX (by omega) _ (by first | with_reducible exact (Ct.lt2 h0 (eo_ct h1) (Int32.not_le.mpr (by with_reducible assumption))).1 | (repeat first | with_reducible exact h1 | with_reducible exact h0 | with_reducible refine Ct.xs ?_ | with_reducible refine Ct.xo (by decide) ?_ | with_reducible refine eo_ct ?_)) (by first | with_reducible exact (Ct.lt2 h0 (eo_ct h1) (Int32.not_le.mpr (by with_reducible assumption))).1 | (repeat first | with_reducible exact h1 | with_reducible exact h0 | with_reducible refine Ct.xs ?_ | with_reducible refine Ct.xo (by decide) ?_ | with_reducible refine eo_ct ?_))) rfl rfl rfl rfl (Nat.le_of_ble_eq_true rfl) (by omega) ?_
        refine r_goto (tgt := 102) dX4_next_95 (by decide) ?_
        refine x_put (c := 4) (i := 0) (k := 5) hE (fun _ _ => rfl) dX4_next_102 fp_RX4_59 (Nat.le_of_ble_eq_true rfl) rfl rfl (fun _ => Nat.le_of_ble_eq_true rfl) (fun _ _ => rfl) ?_
        refine r_goto (tgt := 138) dX4_next_105 (by decide) ?_
        refine r_vret dX4_next_138 rfl ?_
        exact ⟨_, rfl, by rfl, by rw [f_X4_next, if_pos c1, if_pos c2, if_pos c3]⟩
    · refine r_iload_n dX4_next_65 rfl ?_
      refine r_bipush (v := (48 : Int32)) dX4_next_66 (by decide) ?_
      refine r_icmp_ne (tgt := 108) dX4_next_68 (by decide) (fun c4 => ?_) (fun c4 => ?_)
      · refine r_aload_n dX4_next_108 rfl ?_
        refine r_dup dX4_next_109 rfl ?_
        refine x_getI (c := 4) (x := (f_X4_endOf S σ (32 : Int32) (σ.1 4 0 4))) hE (fun _ _ => rfl) (fun _ => rfl) dX4_next_110 fl_RX4_26 (Nat.le_of_ble_eq_true rfl) (Eq.trans (xp_o (by decide)) (xp_s _ _ _ _ _)) ?_
        refine r_iconst (v := (1 : Int32)) dX4_next_113 (by decide) ?_
        refine r_iadd dX4_next_114 ?_
        refine x_put (c := 4) (i := 0) (k := 4) hE (fun _ _ => rfl) dX4_next_115 fp_RX4_26 (Nat.le_of_ble_eq_true rfl) rfl rfl (fun _ => Nat.le_of_ble_eq_true rfl) (fun _ _ => rfl) ?_
        refine r_aload_n dX4_next_118 rfl ?_
        obtain ⟨s5, s5v, s5s, s5r⟩ := hX.str 2 (by decide)
        refine r_ldcS dX4_next_119 s5r ?_
        refine r_iload_n dX4_next_121 rfl ?_
        refine r_i2c dX4_next_122 ?_
        refine s_ix dX4_next_123 ml_RX4_106 hX s5s (c255 _).1 (c255 _).2 (Nat.le_of_ble_eq_true rfl) (by omega) ?_
        refine r_if_lt (tgt := 133) dX4_next_126 (by decide) (fun c6 => ?_) (fun c6 => ?_)
        · refine r_bipush (v := (14 : Int32)) dX4_next_133 (by decide) ?_
          refine x_put (c := 4) (i := 0) (k := 5) hE (fun _ _ => rfl) dX4_next_135 fp_RX4_59 (Nat.le_of_ble_eq_true rfl) rfl rfl (fun _ => Nat.le_of_ble_eq_true rfl) (fun _ _ => rfl) ?_
          refine r_vret dX4_next_138 rfl ?_
          exact ⟨_, rfl, by rfl, by rw [f_X4_next, if_pos c1, if_neg c2, if_neg c4, if_pos c6]⟩
        · refine r_iload_n dX4_next_129 rfl ?_
          refine r_goto (tgt := 135) dX4_next_130 (by decide) ?_
          refine x_put (c := 4) (i := 0) (k := 5) hE (fun _ _ => rfl) dX4_next_135 fp_RX4_59 (Nat.le_of_ble_eq_true rfl) rfl rfl (fun _ => Nat.le_of_ble_eq_true rfl) (fun _ _ => rfl) ?_
          refine r_vret dX4_next_138 rfl ?_
          exact ⟨_, rfl, by rfl, by rw [f_X4_next, if_pos c1, if_neg c2, if_neg c4, if_neg c6]⟩
      · refine r_aload_n dX4_next_71 rfl ?_
        refine r_aload_n dX4_next_72 rfl ?_
        refine r_iload_n dX4_next_73 rfl ?_
        refine r_aload_n dX4_next_74 rfl ?_
        refine x_getI (c := 4) (x := (f_X4_endOf S σ (32 : Int32) (σ.1 4 0 4))) hE (fun _ _ => rfl) (fun _ => rfl) dX4_next_75 fl_RX4_26 (Nat.le_of_ble_eq_true rfl) (Eq.trans (xp_o (by decide)) (xp_s _ _ _ _ _)) ?_
        refine x_callW (c := 4) (i := 0) hE (fun _ _ => rfl) (Nat.le_of_ble_eq_true rfl) dX4_next_78 mf_X4_endOf ml_RX4_89 (ok_X4_endOf (d := d - 1) hE hX (by omega) _ _ _ (by first | with_reducible exact (Ct.lt2 h0 (eo_ct h1) (Int32.not_le.mpr (by with_reducible assumption))).1 | (repeat first | with_reducible exact h1 | with_reducible exact h0 | with_reducible refine Ct.xs ?_ | with_reducible refine Ct.xo (by decide) ?_ | with_reducible refine eo_ct ?_))) rfl rfl rfl rfl (Nat.le_of_ble_eq_true rfl) (by omega) ?_
        refine x_put (c := 4) (i := 0) (k := 4) hE (fun _ _ => rfl) dX4_next_81 fp_RX4_26 (Nat.le_of_ble_eq_true rfl) rfl rfl (fun _ => Nat.le_of_ble_eq_true rfl) (fun _ _ => rfl) ?_
        refine r_aload_n dX4_next_84 rfl ?_
        refine r_iload_n dX4_next_85 rfl ?_
        refine r_bipush (v := (97 : Int32)) dX4_next_86 (by decide) ?_
        refine r_icmp_ne (tgt := 98) dX4_next_88 (by decide) (fun c7 => ?_) (fun c7 => ?_)
        · refine r_aload_n dX4_next_98 rfl ?_
          refine x_callW (c := 4) (i := 0) hE (fun _ _ => rfl) (Nat.le_of_ble_eq_true rfl) dX4_next_99 mf_X4_numberToken ml_RX4_101 (ok_X4_numberToken (d := d - 1) hE hX (by omega) _ (by first | with_reducible exact (Ct.lt2 h0 (eo_ct h1) (Int32.not_le.mpr (by with_reducible assumption))).1 | (repeat first | with_reducible exact h1 | with_reducible exact h0 | with_reducible refine Ct.xs ?_ | with_reducible refine Ct.xo (by decide) ?_ | with_reducible refine eo_ct ?_)) (by first | with_reducible exact (Ct.lt2 h0 (eo_ct h1) (Int32.not_le.mpr (by with_reducible assumption))).1 | (repeat first | with_reducible exact h1 | with_reducible exact h0 | with_reducible refine Ct.xs ?_ | with_reducible refine Ct.xo (by decide) ?_ | with_reducible refine eo_ct ?_))) rfl rfl rfl rfl (Nat.le_of_ble_eq_true rfl) (by omega) ?_
          refine x_put (c := 4) (i := 0) (k := 5) hE (fun _ _ => rfl) dX4_next_102 fp_RX4_59 (Nat.le_of_ble_eq_true rfl) rfl rfl (fun _ => Nat.le_of_ble_eq_true rfl) (fun _ _ => rfl) ?_
          refine r_goto (tgt := 138) dX4_next_105 (by decide) ?_
          refine r_vret dX4_next_138 rfl ?_
          exact ⟨_, rfl, by rfl, by rw [f_X4_next, if_pos c1, if_neg c2, if_pos c4, if_neg c7]⟩
        · refine r_aload_n dX4_next_91 rfl ?_
          refine x_callW (c := 4) (i := 0) hE (fun _ _ => rfl) (Nat.le_of_ble_eq_true rfl) dX4_next_92 mf_X4_wordToken ml_RX4_97 (ok_X4_wordToken (d := d - 1) hE hX (by omega) _ (by first | with_reducible exact (Ct.lt2 h0 (eo_ct h1) (Int32.not_le.mpr (by with_reducible assumption))).1 | (repeat first | with_reducible exact h1 | with_reducible exact h0 | with_reducible refine Ct.xs ?_ | with_reducible refine Ct.xo (by decide) ?_ | with_reducible refine eo_ct ?_)) (by first | with_reducible exact (Ct.lt2 h0 (eo_ct h1) (Int32.not_le.mpr (by with_reducible assumption))).1 | (repeat first | with_reducible exact h1 | with_reducible exact h0 | with_reducible refine Ct.xs ?_ | with_reducible refine Ct.xo (by decide) ?_ | with_reducible refine eo_ct ?_))) rfl rfl rfl rfl (Nat.le_of_ble_eq_true rfl) (by omega) ?_
          refine r_goto (tgt := 102) dX4_next_95 (by decide) ?_
          refine x_put (c := 4) (i := 0) (k := 5) hE (fun _ _ => rfl) dX4_next_102 fp_RX4_59 (Nat.le_of_ble_eq_true rfl) rfl rfl (fun _ => Nat.le_of_ble_eq_true rfl) (fun _ _ => rfl) ?_
          refine r_goto (tgt := 138) dX4_next_105 (by decide) ?_
          refine r_vret dX4_next_138 rfl ?_
          exact ⟨_, rfl, by rfl, by rw [f_X4_next, if_pos c1, if_neg c2, if_pos c4, if_pos c7]⟩
  · refine r_aload_n dX4_next_33 rfl ?_
    refine r_bipush (v := (13 : Int32)) dX4_next_34 (by decide) ?_
    refine x_put (c := 4) (i := 0) (k := 5) hE (fun _ _ => rfl) dX4_next_36 fp_RX4_59 (Nat.le_of_ble_eq_true rfl) rfl rfl (fun _ => Nat.le_of_ble_eq_true rfl) (fun _ _ => rfl) ?_
    refine r_vret dX4_next_39 rfl ?_
    exact ⟨_, rfl, by rfl, by rw [f_X4_next, if_neg c1]⟩
