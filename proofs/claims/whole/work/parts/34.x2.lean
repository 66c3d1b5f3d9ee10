def f_X8_taste (S : XSh) (σ : XSt) (o : Nat) (p1 : Int32) : Int32 := (if p1 = 0 then ((σ.1 8 o 4) / (10000 : Int32)) else (if p1 = (1 : Int32) then (((σ.1 8 o 4) / (100 : Int32)) - ((σ.1 8 o 4) / (100 : Int32)) / (100 : Int32) * (100 : Int32)) else ((σ.1 8 o 4) - (σ.1 8 o 4) / (100 : Int32) * (100 : Int32))))
set_option maxRecDepth 100000 in
set_option maxHeartbeats 1000000 in
theorem ok_X8_taste {g : GC} {B : hH} {am : XAd} {S : XSh} {d : Nat} (hE : XOk am S) (hX : GX g) (hd : 0 ≤ d) (σ : XSt) (o : Nat) (p1 : Int32) (ho : o < lim S 8) : XC g B am S d yX8_taste cX8_taste 2 (some FieldType.int) [.ref (am 8 o), .int p1] (fun v σ' => v = some (.int (f_X8_taste S σ o p1)) ∧ σ' = σ) σ := by
  refine AM.of2 (own := RX8) (nm := "taste") (L0 := [(0, .ref (am 8 o)), (1, .int p1)]) (by decide) rfl rfl (Nat.le_of_ble_eq_true rfl) rfl ?_
  refine r_iload_n dX8_taste_0 rfl ?_
  refine r_if_ne (tgt := 15) dX8_taste_1 (by decide) (fun c1 => ?_) (fun c1 => ?_)
  · refine r_iload_n dX8_taste_15 rfl ?_
    refine r_iconst (v := (1 : Int32)) dX8_taste_16 (by decide) ?_
    refine r_icmp_ne (tgt := 33) dX8_taste_17 (by decide) (fun c2 => ?_) (fun c2 => ?_)
    · refine r_aload_n dX8_taste_33 rfl ?_
      refine x_getI (c := 8) (x := (σ.1 8 o 4)) hE (fun _ _ => rfl) (fun _ => rfl) dX8_taste_34 fl_RX8_22 ho rfl ?_
      refine r_bipush (v := (100 : Int32)) dX8_taste_37 (by decide) ?_
      refine r_irem dX8_taste_39 (by decide) ?_
      refine r_iret dX8_taste_40 rfl rfl ?_
      exact ⟨_, rfl, by rw [f_X8_taste, if_neg c1, if_neg c2], rfl⟩
    · refine r_aload_n dX8_taste_20 rfl ?_
      refine x_getI (c := 8) (x := (σ.1 8 o 4)) hE (fun _ _ => rfl) (fun _ => rfl) dX8_taste_21 fl_RX8_22 ho rfl ?_
      refine r_bipush (v := (100 : Int32)) dX8_taste_24 (by decide) ?_
      refine r_idiv dX8_taste_26 (by decide) ?_
      refine r_bipush (v := (100 : Int32)) dX8_taste_27 (by decide) ?_
      refine r_irem dX8_taste_29 (by decide) ?_
      refine r_goto (tgt := 40) dX8_taste_30 (by decide) ?_
      refine r_iret dX8_taste_40 rfl rfl ?_
      exact ⟨_, rfl, by rw [f_X8_taste, if_neg c1, if_pos c2], rfl⟩
  · refine r_aload_n dX8_taste_4 rfl ?_
    refine x_getI (c := 8) (x := (σ.1 8 o 4)) hE (fun _ _ => rfl) (fun _ => rfl) dX8_taste_5 fl_RX8_22 ho rfl ?_
    refine r_sipush (v := (10000 : Int32)) dX8_taste_8 (by decide) ?_
    refine r_idiv dX8_taste_11 (by decide) ?_
    refine r_goto (tgt := 40) dX8_taste_12 (by decide) ?_
    refine r_iret dX8_taste_40 rfl rfl ?_
    exact ⟨_, rfl, by rw [f_X8_taste, if_pos c1], rfl⟩

def f_X8_remaining (S : XSh) (σ : XSt) (o : Nat) : Int32 := (if (0 : Int32) < ((σ.1 8 o 2) - (σ.1 8 o 5)) then ((σ.1 8 o 2) - (σ.1 8 o 5)) else (0 : Int32))
set_option maxRecDepth 100000 in
set_option maxHeartbeats 1000000 in
theorem ok_X8_remaining {g : GC} {B : hH} {am : XAd} {S : XSh} {d : Nat} (hE : XOk am S) (hX : GX g) (hd : 1 ≤ d) (σ : XSt) (o : Nat) (ho : o < lim S 8) : XC g B am S d yX8_remaining cX8_remaining 1 (some FieldType.int) [.ref (am 8 o)] (fun v σ' => v = some (.int (f_X8_remaining S σ o)) ∧ σ' = σ) σ := by
  refine AM.of2 (own := RX8) (nm := "remaining") (L0 := [(0, .ref (am 8 o))]) (by decide) rfl rfl (Nat.le_of_ble_eq_true rfl) rfl ?_
  refine r_iconst (v := (0 : Int32)) dX8_remaining_0 (by decide) ?_
  refine r_aload_n dX8_remaining_1 rfl ?_
  refine x_getI (c := 8) (x := (σ.1 8 o 2)) hE (fun _ _ => rfl) (fun _ => rfl) dX8_remaining_2 fl_RX8_16 ho rfl ?_
  refine r_aload_n dX8_remaining_5 rfl ?_
  refine x_getI (c := 8) (x := (σ.1 8 o 5)) hE (fun _ _ => rfl) (fun _ => rfl) dX8_remaining_6 fl_RX8_25 ho rfl ?_
  refine r_isub dX8_remaining_9 ?_
  refine r_mmax dX8_remaining_10 ml_RX8_28 (Nat.le_of_ble_eq_true rfl) (by omega) ?_
  refine r_iret dX8_remaining_13 rfl rfl ?_
  exact ⟨_, rfl, by rw [f_X8_remaining], rfl⟩

def f_X1_within (S : XSh) (σ : XSt) (o : Nat) : Nat := (if (f_X9_isOfKind (σ.1 1 o 0) (1 : Int32)) = 0 then (S 2 o) else (S 1 o))
set_option maxRecDepth 100000 in
set_option maxHeartbeats 1000000 in
theorem ok_X1_within {g : GC} {B : hH} {am : XAd} {S : XSh} {d : Nat} (hE : XOk am S) (hX : GX g) (hd : 2 ≤ d) (σ : XSt) (o : Nat) (ho : o < lim S 1) : XC g B am S d yX1_within cX1_within 1 (some (FieldType.object "OldBottles$Wine")) [.ref (am 1 o)] (fun v σ' => v = some (.ref (am 8 (f_X1_within S σ o))) ∧ σ' = σ) σ := by
  refine AM.of2 (own := RX1) (nm := "within") (L0 := [(0, .ref (am 1 o))]) (by decide) rfl rfl (Nat.le_of_ble_eq_true rfl) rfl ?_
  refine r_aload_n dX1_within_0 rfl ?_
  refine x_getI (c := 1) (x := (σ.1 1 o 0)) hE (fun _ _ => rfl) (fun _ => rfl) dX1_within_1 fl_RX1_9 ho rfl ?_
  refine r_iconst (v := (1 : Int32)) dX1_within_4 (by decide) ?_
  refine r_callSN0 (host := "OldBottles") dX1_within_5 mf_X9_isOfKind (hX.nw _ (List.mem_of_getElem? (i := 4) rfl)) (ok_X9_isOfKind (d := d - 1) hX (by omega) _ _) rfl rfl (Nat.le_of_ble_eq_true rfl) (by omega) ?_
  refine r_if_eq (tgt := 18) dX1_within_8 (by decide) (fun c1 => ?_) (fun c1 => ?_)
  · refine r_aload_n dX1_within_18 rfl ?_
    refine x_get (c := 1) hE (fun _ _ => rfl) dX1_within_19 fl_RX1_19 ho rfl ?_
    refine r_aret dX1_within_22 rfl (Or.inl ⟨_, rfl⟩) (Or.inr ⟨_, rfl⟩) ?_
    exact ⟨_, rfl, by rw [f_X1_within, if_pos c1], rfl⟩
  · refine r_aload_n dX1_within_11 rfl ?_
    refine x_get (c := 1) hE (fun _ _ => rfl) dX1_within_12 fl_RX1_15 ho rfl ?_
    refine r_goto (tgt := 22) dX1_within_15 (by decide) ?_
    refine r_aret dX1_within_22 rfl (Or.inl ⟨_, rfl⟩) (Or.inr ⟨_, rfl⟩) ?_
    exact ⟨_, rfl, by rw [f_X1_within, if_neg c1], rfl⟩

def f_X1_tasted (S : XSh) (σ : XSt) (o : Nat) (p1 : Int32) : Int32 := (if (σ.1 1 o 0) = (1 : Int32) then (f_X8_taste S σ (S 1 o) p1) else if (σ.1 1 o 0) = (2 : Int32) then (f_X8_taste S σ (S 2 o) p1) else if (σ.1 1 o 0) = (3 : Int32) then (f_X8_taste S σ (S 1 o) p1) else if (σ.1 1 o 0) = (4 : Int32) then (((f_X8_taste S σ (S 2 o) p1) + (f_X8_taste S σ (S 1 o) p1)) / (2 : Int32)) else if (σ.1 1 o 0) = (5 : Int32) then (if (0 : Int32) < ((f_X8_taste S σ (S 2 o) p1) - (9 : Int32)) then ((f_X8_taste S σ (S 2 o) p1) - (9 : Int32)) else (0 : Int32)) else (f_X8_taste S σ (S 2 o) p1))
set_option maxRecDepth 100000 in
set_option maxHeartbeats 1000000 in
theorem ok_X1_tasted {g : GC} {B : hH} {am : XAd} {S : XSh} {d : Nat} (hE : XOk am S) (hX : GX g) (hd : 1 ≤ d) (σ : XSt) (o : Nat) (p1 : Int32) (ho : o < lim S 1) (h0 : XInv S σ) : XC g B am S d yX1_tasted cX1_tasted 2 (some FieldType.int) [.ref (am 1 o), .int p1] (fun v σ' => v = some (.int (f_X1_tasted S σ o p1)) ∧ σ' = σ) σ := by
  refine AM.of2 (own := RX1) (nm := "tasted") (L0 := [(0, .ref (am 1 o)), (1, .int p1)]) (by decide) rfl rfl (Nat.le_of_ble_eq_true rfl) rfl ?_
  refine r_aload_n dX1_tasted_0 rfl ?_
  refine x_getI (c := 1) (x := (σ.1 1 o 0)) hE (fun _ _ => rfl) (fun _ => rfl) dX1_tasted_1 fl_RX1_9 ho rfl ?_
  by_cases c1 : (σ.1 1 o 0) = (1 : Int32)
  · refine r_tabK (tgt := 40) dX1_tasted_4 c1 (by decide) (by decide) rfl (by decide) ?_
    refine r_aload_n dX1_tasted_40 rfl ?_
    refine x_get (c := 1) hE (fun _ _ => rfl) dX1_tasted_41 fl_RX1_15 ho rfl ?_
    refine r_iload_n dX1_tasted_44 rfl ?_
    refine x_callW (c := 8) (i := (S 1 o)) hE (fun _ _ => rfl) (by first | with_reducible assumption | exact h0.lab ho | exact h0.ins ho) dX1_tasted_45 mf_X8_taste ml_RX1_49 (ok_X8_taste (d := d - 1) hE hX (by omega) _ _ _ (by first | with_reducible assumption | exact h0.lab ho | exact h0.ins ho)) rfl rfl rfl rfl (Nat.le_of_ble_eq_true rfl) (by omega) ?_
    refine r_iret dX1_tasted_48 rfl rfl ?_
    exact ⟨_, rfl, by rw [f_X1_tasted, if_pos c1], rfl⟩
  by_cases c2 : (σ.1 1 o 0) = (2 : Int32)
  · refine r_tabK (tgt := 85) dX1_tasted_4 c2 (by decide) (by decide) rfl (by decide) ?_
    refine r_aload_n dX1_tasted_85 rfl ?_
    refine x_get (c := 1) hE (fun _ _ => rfl) dX1_tasted_86 fl_RX1_19 ho rfl ?_
    refine r_iload_n dX1_tasted_89 rfl ?_
    refine x_callW (c := 8) (i := (S 2 o)) hE (fun _ _ => rfl) (by first | with_reducible assumption | exact h0.lab ho | exact h0.ins ho) dX1_tasted_90 mf_X8_taste ml_RX1_49 (ok_X8_taste (d := d - 1) hE hX (by omega) _ _ _ (by first | with_reducible assumption | exact h0.lab ho | exact h0.ins ho)) rfl rfl rfl rfl (Nat.le_of_ble_eq_true rfl) (by omega) ?_
    refine r_iret dX1_tasted_93 rfl rfl ?_
    exact ⟨_, rfl, by rw [f_X1_tasted, if_neg c1, if_pos c2], rfl⟩
  by_cases c3 : (σ.1 1 o 0) = (3 : Int32)
  · refine r_tabK (tgt := 40) dX1_tasted_4 c3 (by decide) (by decide) rfl (by decide) ?_
    refine r_aload_n dX1_tasted_40 rfl ?_
    refine x_get (c := 1) hE (fun _ _ => rfl) dX1_tasted_41 fl_RX1_15 ho rfl ?_
    refine r_iload_n dX1_tasted_44 rfl ?_
    refine x_callW (c := 8) (i := (S 1 o)) hE (fun _ _ => rfl) (by first | with_reducible assumption | exact h0.lab ho | exact h0.ins ho) dX1_tasted_45 mf_X8_taste ml_RX1_49 (ok_X8_taste (d := d - 1) hE hX (by omega) _ _ _ (by first | with_reducible assumption | exact h0.lab ho | exact h0.ins ho)) rfl rfl rfl rfl (Nat.le_of_ble_eq_true rfl) (by omega) ?_
    refine r_iret dX1_tasted_48 rfl rfl ?_
    exact ⟨_, rfl, by rw [f_X1_tasted, if_neg c1, if_neg c2, if_pos c3], rfl⟩
  by_cases c4 : (σ.1 1 o 0) = (4 : Int32)
  · refine r_tabK (tgt := 49) dX1_tasted_4 c4 (by decide) (by decide) rfl (by decide) ?_
    refine r_aload_n dX1_tasted_49 rfl ?_
    refine x_get (c := 1) hE (fun _ _ => rfl) dX1_tasted_50 fl_RX1_19 ho rfl ?_
    refine r_iload_n dX1_tasted_53 rfl ?_
    refine x_callW (c := 8) (i := (S 2 o)) hE (fun _ _ => rfl) (by first | with_reducible assumption | exact h0.lab ho | exact h0.ins ho) dX1_tasted_54 mf_X8_taste ml_RX1_49 (ok_X8_taste (d := d - 1) hE hX (by omega) _ _ _ (by first | with_reducible assumption | exact h0.lab ho | exact h0.ins ho)) rfl rfl rfl rfl (Nat.le_of_ble_eq_true rfl) (by omega) ?_
    refine r_aload_n dX1_tasted_57 rfl ?_
    refine x_get (c := 1) hE (fun _ _ => rfl) dX1_tasted_58 fl_RX1_15 ho rfl ?_
    refine r_iload_n dX1_tasted_61 rfl ?_
    refine x_callW (c := 8) (i := (S 1 o)) hE (fun _ _ => rfl) (by first | with_reducible assumption | exact h0.lab ho | exact h0.ins ho) dX1_tasted_62 mf_X8_taste ml_RX1_49 (ok_X8_taste (d := d - 1) hE hX (by omega) _ _ _ (by first | with_reducible assumption | exact h0.lab ho | exact h0.ins ho)) rfl rfl rfl rfl (Nat.le_of_ble_eq_true rfl) (by omega) ?_
    refine r_iadd dX1_tasted_65 ?_
    refine r_iconst (v := (2 : Int32)) dX1_tasted_66 (by decide) ?_
    refine r_idiv dX1_tasted_67 (by decide) ?_
    refine r_iret dX1_tasted_68 rfl rfl ?_
    exact ⟨_, rfl, by rw [f_X1_tasted, if_neg c1, if_neg c2, if_neg c3, if_pos c4], rfl⟩
  by_cases c5 : (σ.1 1 o 0) = (5 : Int32)
  · refine r_tabK (tgt := 69) dX1_tasted_4 c5 (by decide) (by decide) rfl (by decide) ?_
    refine r_iconst (v := (0 : Int32)) dX1_tasted_69 (by decide) ?_
    refine r_aload_n dX1_tasted_70 rfl ?_
    refine x_get (c := 1) hE (fun _ _ => rfl) dX1_tasted_71 fl_RX1_19 ho rfl ?_
    refine r_iload_n dX1_tasted_74 rfl ?_
    refine x_callW (c := 8) (i := (S 2 o)) hE (fun _ _ => rfl) (by first | with_reducible assumption | exact h0.lab ho | exact h0.ins ho) dX1_tasted_75 mf_X8_taste ml_RX1_49 (ok_X8_taste (d := d - 1) hE hX (by omega) _ _ _ (by first | with_reducible assumption | exact h0.lab ho | exact h0.ins ho)) rfl rfl rfl rfl (Nat.le_of_ble_eq_true rfl) (by omega) ?_
    refine r_bipush (v := (9 : Int32)) dX1_tasted_78 (by decide) ?_
    refine r_isub dX1_tasted_80 ?_
    refine r_mmax dX1_tasted_81 ml_RX1_53 (Nat.le_of_ble_eq_true rfl) (by omega) ?_
    refine r_iret dX1_tasted_84 rfl rfl ?_
    exact ⟨_, rfl, by rw [f_X1_tasted, if_neg c1, if_neg c2, if_neg c3, if_neg c4, if_pos c5], rfl⟩
  refine r_tabOut (tgt := 85) dX1_tasted_4 (by have e0 : ((σ.1 1 o 0)).toInt ≠ 1 := ne_toInt c1; have e1 : ((σ.1 1 o 0)).toInt ≠ 2 := ne_toInt c2; have e2 : ((σ.1 1 o 0)).toInt ≠ 3 := ne_toInt c3; have e3 : ((σ.1 1 o 0)).toInt ≠ 4 := ne_toInt c4; have e4 : ((σ.1 1 o 0)).toInt ≠ 5 := ne_toInt c5; omega) (by decide) ?_
  refine r_aload_n dX1_tasted_85 rfl ?_
  refine x_get (c := 1) hE (fun _ _ => rfl) dX1_tasted_86 fl_RX1_19 ho rfl ?_
  refine r_iload_n dX1_tasted_89 rfl ?_
  refine x_callW (c := 8) (i := (S 2 o)) hE (fun _ _ => rfl) (by first | with_reducible assumption | exact h0.lab ho | exact h0.ins ho) dX1_tasted_90 mf_X8_taste ml_RX1_49 (ok_X8_taste (d := d - 1) hE hX (by omega) _ _ _ (by first | with_reducible assumption | exact h0.lab ho | exact h0.ins ho)) rfl rfl rfl rfl (Nat.le_of_ble_eq_true rfl) (by omega) ?_
  refine r_iret dX1_tasted_93 rfl rfl ?_
  exact ⟨_, rfl, by rw [f_X1_tasted, if_neg c1, if_neg c2, if_neg c3, if_neg c4, if_neg c5], rfl⟩

def f_X1_passOn (S : XSh) (σ : XSt) (o : Nat) (p1 : Int32) (p2 : Int32) (p3 : Int32) : XSt := (if (σ.1 1 o 4) ≤ 0 then (if (σ.1 1 o 4) ≤ 0 then (xp (xp (xp (xp σ 1 o 7 (1 : Int32)) 1 o 4 (((xp σ 1 o 7 (1 : Int32)).1 1 o 4) + (1 : Int32))) 1 o 5 p2) 1 o 8 p3) else (xp (xp (xp (xp (xp σ 1 o 6 ((σ.1 1 o 6) + (1 : Int32))) 1 o 7 (1 : Int32)) 1 o 4 (((xp (xp σ 1 o 6 ((σ.1 1 o 6) + (1 : Int32))) 1 o 7 (1 : Int32)).1 1 o 4) + (1 : Int32))) 1 o 5 p2) 1 o 8 p3)) else (if p1 = (σ.1 1 o 5) then (if (σ.1 1 o 4) ≤ 0 then (xp (xp (xp (xp σ 1 o 7 ((σ.1 1 o 7) + (1 : Int32))) 1 o 4 (((xp σ 1 o 7 ((σ.1 1 o 7) + (1 : Int32))).1 1 o 4) + (1 : Int32))) 1 o 5 p2) 1 o 8 p3) else (xp (xp (xp (xp σ 1 o 7 ((σ.1 1 o 7) + (1 : Int32))) 1 o 4 (((xp σ 1 o 7 ((σ.1 1 o 7) + (1 : Int32))).1 1 o 4) + (1 : Int32))) 1 o 5 p2) 1 o 8 p3)) else (if (σ.1 1 o 4) ≤ 0 then (xp (xp (xp (xp σ 1 o 7 (1 : Int32)) 1 o 4 (((xp σ 1 o 7 (1 : Int32)).1 1 o 4) + (1 : Int32))) 1 o 5 p2) 1 o 8 p3) else (xp (xp (xp (xp (xp σ 1 o 6 ((σ.1 1 o 6) + (1 : Int32))) 1 o 7 (1 : Int32)) 1 o 4 (((xp (xp σ 1 o 6 ((σ.1 1 o 6) + (1 : Int32))) 1 o 7 (1 : Int32)).1 1 o 4) + (1 : Int32))) 1 o 5 p2) 1 o 8 p3))))
set_option maxRecDepth 100000 in
set_option maxHeartbeats 1000000 in
theorem ok_X1_passOn {g : GC} {B : hH} {am : XAd} {S : XSh} {d : Nat} (hE : XOk am S) (hX : GX g) (hd : 0 ≤ d) (σ : XSt) (o : Nat) (p1 : Int32) (p2 : Int32) (p3 : Int32) (ho : o < lim S 1) : XC g B am S d yX1_passOn cX1_passOn 5 none [.ref (am 1 o), .int p1, .int p2, .int p3] (fun v σ' => v = none ∧ σ' = (f_X1_passOn S σ o p1 p2 p3)) σ := by
  refine AM.of2 (own := RX1) (nm := "passOn") (L0 := [(0, .ref (am 1 o)), (1, .int p1), (2, .int p2), (3, .int p3)]) (by decide) rfl rfl (Nat.le_of_ble_eq_true rfl) rfl ?_
  refine r_aload_n dX1_passOn_0 rfl ?_
  refine x_getI (c := 1) (x := (σ.1 1 o 4)) hE (fun _ _ => rfl) (fun _ => rfl) dX1_passOn_1 fl_RX1_61 ho rfl ?_
  refine r_if_le (tgt := 19) dX1_passOn_4 (by decide) (fun c1 => ?_) (fun c1 => ?_)
  · refine r_iconst (v := (0 : Int32)) dX1_passOn_19 (by decide) ?_
    refine r_istore dX1_passOn_20 (by decide) ?_
    refine r_aload_n dX1_passOn_22 rfl ?_
    refine x_getI (c := 1) (x := (σ.1 1 o 4)) hE (fun _ _ => rfl) (fun _ => rfl) dX1_passOn_23 fl_RX1_61 ho rfl ?_
    refine r_if_le (tgt := 44) dX1_passOn_26 (by decide) (fun c2 => ?_) (fun c2 => ?_)
    · refine r_aload_n dX1_passOn_44 rfl ?_
      refine r_iload dX1_passOn_45 rfl ?_
      refine r_if_eq (tgt := 59) dX1_passOn_47 (by decide) (fun c3 => ?_) (fun c3 => absurd c3 (by decide))
      refine r_iconst (v := (1 : Int32)) dX1_passOn_59 (by decide) ?_
      refine x_put (c := 1) (i := o) (k := 7) hE (fun _ _ => rfl) dX1_passOn_60 fp_RX1_67 ho rfl rfl (fun _ => Nat.le_of_ble_eq_true rfl) (fun _ _ => rfl) ?_
      refine r_aload_n dX1_passOn_63 rfl ?_
      refine r_dup dX1_passOn_64 rfl ?_
      refine x_getI (c := 1) (x := ((xp σ 1 o 7 (1 : Int32)).1 1 o 4)) hE (fun _ _ => rfl) (fun _ => rfl) dX1_passOn_65 fl_RX1_61 ho rfl ?_
      refine r_iconst (v := (1 : Int32)) dX1_passOn_68 (by decide) ?_
      refine r_iadd dX1_passOn_69 ?_
      refine x_put (c := 1) (i := o) (k := 4) hE (fun _ _ => rfl) dX1_passOn_70 fp_RX1_61 ho rfl rfl (fun _ => Nat.le_of_ble_eq_true rfl) (fun _ _ => rfl) ?_
      refine r_aload_n dX1_passOn_73 rfl ?_
      refine r_iload_n dX1_passOn_74 rfl ?_
      refine x_put (c := 1) (i := o) (k := 5) hE (fun _ _ => rfl) dX1_passOn_75 fp_RX1_34 ho rfl rfl (fun _ => Nat.le_of_ble_eq_true rfl) (fun _ _ => rfl) ?_
      refine r_aload_n dX1_passOn_78 rfl ?_
      refine r_iload_n dX1_passOn_79 rfl ?_
      refine x_put (c := 1) (i := o) (k := 8) hE (fun _ _ => rfl) dX1_passOn_80 fp_RX1_70 ho rfl rfl (fun _ => Nat.le_of_ble_eq_true rfl) (fun _ _ => rfl) ?_
      refine r_vret dX1_passOn_83 rfl ?_
      exact ⟨_, rfl, by rfl, by rw [f_X1_passOn, if_pos c1, if_pos c2]⟩
    · refine r_iload dX1_passOn_29 rfl ?_
      refine r_if_ne (tgt := 44) dX1_passOn_31 (by decide) (fun c4 => absurd c4 (by decide)) (fun c4 => ?_)
      refine r_aload_n dX1_passOn_34 rfl ?_
      refine r_dup dX1_passOn_35 rfl ?_
      refine x_getI (c := 1) (x := (σ.1 1 o 6)) hE (fun _ _ => rfl) (fun _ => rfl) dX1_passOn_36 fl_RX1_64 ho rfl ?_
      refine r_iconst (v := (1 : Int32)) dX1_passOn_39 (by decide) ?_
      refine r_iadd dX1_passOn_40 ?_
      refine x_put (c := 1) (i := o) (k := 6) hE (fun _ _ => rfl) dX1_passOn_41 fp_RX1_64 ho rfl rfl (fun _ => Nat.le_of_ble_eq_true rfl) (fun _ _ => rfl) ?_
      refine r_aload_n dX1_passOn_44 rfl ?_
      refine r_iload dX1_passOn_45 rfl ?_
      refine r_if_eq (tgt := 59) dX1_passOn_47 (by decide) (fun c5 => ?_) (fun c5 => absurd c5 (by decide))
      refine r_iconst (v := (1 : Int32)) dX1_passOn_59 (by decide) ?_
      refine x_put (c := 1) (i := o) (k := 7) hE (fun _ _ => rfl) dX1_passOn_60 fp_RX1_67 ho rfl rfl (fun _ => Nat.le_of_ble_eq_true rfl) (fun _ _ => rfl) ?_
      refine r_aload_n dX1_passOn_63 rfl ?_
      refine r_dup dX1_passOn_64 rfl ?_
      refine x_getI (c := 1) (x := ((xp (xp σ 1 o 6 ((σ.1 1 o 6) + (1 : Int32))) 1 o 7 (1 : Int32)).1 1 o 4)) hE (fun _ _ => rfl) (fun _ => rfl) dX1_passOn_65 fl_RX1_61 ho rfl ?_
      refine r_iconst (v := (1 : Int32)) dX1_passOn_68 (by decide) ?_
      refine r_iadd dX1_passOn_69 ?_
      refine x_put (c := 1) (i := o) (k := 4) hE (fun _ _ => rfl) dX1_passOn_70 fp_RX1_61 ho rfl rfl (fun _ => Nat.le_of_ble_eq_true rfl) (fun _ _ => rfl) ?_
      refine r_aload_n dX1_passOn_73 rfl ?_
      refine r_iload_n dX1_passOn_74 rfl ?_
      refine x_put (c := 1) (i := o) (k := 5) hE (fun _ _ => rfl) dX1_passOn_75 fp_RX1_34 ho rfl rfl (fun _ => Nat.le_of_ble_eq_true rfl) (fun _ _ => rfl) ?_
      refine r_aload_n dX1_passOn_78 rfl ?_
      refine r_iload_n dX1_passOn_79 rfl ?_
      refine x_put (c := 1) (i := o) (k := 8) hE (fun _ _ => rfl) dX1_passOn_80 fp_RX1_70 ho rfl rfl (fun _ => Nat.le_of_ble_eq_true rfl) (fun _ _ => rfl) ?_
      refine r_vret dX1_passOn_83 rfl ?_
      exact ⟨_, rfl, by rfl, by rw [f_X1_passOn, if_pos c1, if_neg c2]⟩
  · refine r_iload_n dX1_passOn_7 rfl ?_
    refine r_aload_n dX1_passOn_8 rfl ?_
    refine x_getI (c := 1) (x := (σ.1 1 o 5)) hE (fun _ _ => rfl) (fun _ => rfl) dX1_passOn_9 fl_RX1_34 ho rfl ?_
    refine r_icmp_ne (tgt := 19) dX1_passOn_12 (by decide) (fun c6 => ?_) (fun c6 => ?_)
    · refine r_iconst (v := (0 : Int32)) dX1_passOn_19 (by decide) ?_
      refine r_istore dX1_passOn_20 (by decide) ?_
      refine r_aload_n dX1_passOn_22 rfl ?_
      refine x_getI (c := 1) (x := (σ.1 1 o 4)) hE (fun _ _ => rfl) (fun _ => rfl) dX1_passOn_23 fl_RX1_61 ho rfl ?_
      refine r_if_le (tgt := 44) dX1_passOn_26 (by decide) (fun c7 => ?_) (fun c7 => ?_)
      · refine r_aload_n dX1_passOn_44 rfl ?_
        refine r_iload dX1_passOn_45 rfl ?_
        refine r_if_eq (tgt := 59) dX1_passOn_47 (by decide) (fun c8 => ?_) (fun c8 => absurd c8 (by decide))
        refine r_iconst (v := (1 : Int32)) dX1_passOn_59 (by decide) ?_
        refine x_put (c := 1) (i := o) (k := 7) hE (fun _ _ => rfl) dX1_passOn_60 fp_RX1_67 ho rfl rfl (fun _ => Nat.le_of_ble_eq_true rfl) (fun _ _ => rfl) ?_
        refine r_aload_n dX1_passOn_63 rfl ?_
        refine r_dup dX1_passOn_64 rfl ?_
        refine x_getI (c := 1) (x := ((xp σ 1 o 7 (1 : Int32)).1 1 o 4)) hE (fun _ _ => rfl) (fun _ => rfl) dX1_passOn_65 fl_RX1_61 ho rfl ?_
        refine r_iconst (v := (1 : Int32)) dX1_passOn_68 (by decide) ?_
        refine r_iadd dX1_passOn_69 ?_
        refine x_put (c := 1) (i := o) (k := 4) hE (fun _ _ => rfl) dX1_passOn_70 fp_RX1_61 ho rfl rfl (fun _ => Nat.le_of_ble_eq_true rfl) (fun _ _ => rfl) ?_
        refine r_aload_n dX1_passOn_73 rfl ?_
        refine r_iload_n dX1_passOn_74 rfl ?_
        refine x_put (c := 1) (i := o) (k := 5) hE (fun _ _ => rfl) dX1_passOn_75 fp_RX1_34 ho rfl rfl (fun _ => Nat.le_of_ble_eq_true rfl) (fun _ _ => rfl) ?_
        refine r_aload_n dX1_passOn_78 rfl ?_
        refine r_iload_n dX1_passOn_79 rfl ?_
        refine x_put (c := 1) (i := o) (k := 8) hE (fun _ _ => rfl) dX1_passOn_80 fp_RX1_70 ho rfl rfl (fun _ => Nat.le_of_ble_eq_true rfl) (fun _ _ => rfl) ?_
        refine r_vret dX1_passOn_83 rfl ?_
        exact ⟨_, rfl, by rfl, by rw [f_X1_passOn, if_neg c1, if_neg c6, if_pos c7]⟩
      · refine r_iload dX1_passOn_29 rfl ?_
        refine r_if_ne (tgt := 44) dX1_passOn_31 (by decide) (fun c9 => absurd c9 (by decide)) (fun c9 => ?_)
        refine r_aload_n dX1_passOn_34 rfl ?_
        refine r_dup dX1_passOn_35 rfl ?_
        refine x_getI (c := 1) (x := (σ.1 1 o 6)) hE (fun _ _ => rfl) (fun _ => rfl) dX1_passOn_36 fl_RX1_64 ho rfl ?_
        refine r_iconst (v := (1 : Int32)) dX1_passOn_39 (by decide) ?_
        refine r_iadd dX1_passOn_40 ?_
        refine x_put (c := 1) (i := o) (k := 6) hE (fun _ _ => rfl) dX1_passOn_41 fp_RX1_64 ho rfl rfl (fun _ => Nat.le_of_ble_eq_true rfl) (fun _ _ => rfl) ?_
        refine r_aload_n dX1_passOn_44 rfl ?_
        refine r_iload dX1_passOn_45 rfl ?_
        refine r_if_eq (tgt := 59) dX1_passOn_47 (by decide) (fun c10 => ?_) (fun c10 => absurd c10 (by decide))
        refine r_iconst (v := (1 : Int32)) dX1_passOn_59 (by decide) ?_
        refine x_put (c := 1) (i := o) (k := 7) hE (fun _ _ => rfl) dX1_passOn_60 fp_RX1_67 ho rfl rfl (fun _ => Nat.le_of_ble_eq_true rfl) (fun _ _ => rfl) ?_
        refine r_aload_n dX1_passOn_63 rfl ?_
        refine r_dup dX1_passOn_64 rfl ?_
        refine x_getI (c := 1) (x := ((xp (xp σ 1 o 6 ((σ.1 1 o 6) + (1 : Int32))) 1 o 7 (1 : Int32)).1 1 o 4)) hE (fun _ _ => rfl) (fun _ => rfl) dX1_passOn_65 fl_RX1_61 ho rfl ?_
        refine r_iconst (v := (1 : Int32)) dX1_passOn_68 (by decide) ?_
        refine r_iadd dX1_passOn_69 ?_
        refine x_put (c := 1) (i := o) (k := 4) hE (fun _ _ => rfl) dX1_passOn_70 fp_RX1_61 ho rfl rfl (fun _ => Nat.le_of_ble_eq_true rfl) (fun _ _ => rfl) ?_
        refine r_aload_n dX1_passOn_73 rfl ?_
        refine r_iload_n dX1_passOn_74 rfl ?_
        refine x_put (c := 1) (i := o) (k := 5) hE (fun _ _ => rfl) dX1_passOn_75 fp_RX1_34 ho rfl rfl (fun _ => Nat.le_of_ble_eq_true rfl) (fun _ _ => rfl) ?_
        refine r_aload_n dX1_passOn_78 rfl ?_
        refine r_iload_n dX1_passOn_79 rfl ?_
        refine x_put (c := 1) (i := o) (k := 8) hE (fun _ _ => rfl) dX1_passOn_80 fp_RX1_70 ho rfl rfl (fun _ => Nat.le_of_ble_eq_true rfl) (fun _ _ => rfl) ?_
        refine r_vret dX1_passOn_83 rfl ?_
        exact ⟨_, rfl, by rfl, by rw [f_X1_passOn, if_neg c1, if_neg c6, if_neg c7]⟩
    · refine r_iconst (v := (1 : Int32)) dX1_passOn_15 (by decide) ?_
      refine r_goto (tgt := 20) dX1_passOn_16 (by decide) ?_
      refine r_istore dX1_passOn_20 (by decide) ?_
      refine r_aload_n dX1_passOn_22 rfl ?_
      refine x_getI (c := 1) (x := (σ.1 1 o 4)) hE (fun _ _ => rfl) (fun _ => rfl) dX1_passOn_23 fl_RX1_61 ho rfl ?_
      refine r_if_le (tgt := 44) dX1_passOn_26 (by decide) (fun c11 => ?_) (fun c11 => ?_)
      · refine r_aload_n dX1_passOn_44 rfl ?_
        refine r_iload dX1_passOn_45 rfl ?_
        refine r_if_eq (tgt := 59) dX1_passOn_47 (by decide) (fun c12 => absurd c12 (by decide)) (fun c12 => ?_)
        refine r_aload_n dX1_passOn_50 rfl ?_
        refine x_getI (c := 1) (x := (σ.1 1 o 7)) hE (fun _ _ => rfl) (fun _ => rfl) dX1_passOn_51 fl_RX1_67 ho rfl ?_
        refine r_iconst (v := (1 : Int32)) dX1_passOn_54 (by decide) ?_
        refine r_iadd dX1_passOn_55 ?_
        refine r_goto (tgt := 60) dX1_passOn_56 (by decide) ?_
        refine x_put (c := 1) (i := o) (k := 7) hE (fun _ _ => rfl) dX1_passOn_60 fp_RX1_67 ho rfl rfl (fun _ => Nat.le_of_ble_eq_true rfl) (fun _ _ => rfl) ?_
        refine r_aload_n dX1_passOn_63 rfl ?_
        refine r_dup dX1_passOn_64 rfl ?_
        refine x_getI (c := 1) (x := ((xp σ 1 o 7 ((σ.1 1 o 7) + (1 : Int32))).1 1 o 4)) hE (fun _ _ => rfl) (fun _ => rfl) dX1_passOn_65 fl_RX1_61 ho rfl ?_
        refine r_iconst (v := (1 : Int32)) dX1_passOn_68 (by decide) ?_
        refine r_iadd dX1_passOn_69 ?_
        refine x_put (c := 1) (i := o) (k := 4) hE (fun _ _ => rfl) dX1_passOn_70 fp_RX1_61 ho rfl rfl (fun _ => Nat.le_of_ble_eq_true rfl) (fun _ _ => rfl) ?_
        refine r_aload_n dX1_passOn_73 rfl ?_
        refine r_iload_n dX1_passOn_74 rfl ?_
        refine x_put (c := 1) (i := o) (k := 5) hE (fun _ _ => rfl) dX1_passOn_75 fp_RX1_34 ho rfl rfl (fun _ => Nat.le_of_ble_eq_true rfl) (fun _ _ => rfl) ?_
        refine r_aload_n dX1_passOn_78 rfl ?_
        refine r_iload_n dX1_passOn_79 rfl ?_
        refine x_put (c := 1) (i := o) (k := 8) hE (fun _ _ => rfl) dX1_passOn_80 fp_RX1_70 ho rfl rfl (fun _ => Nat.le_of_ble_eq_true rfl) (fun _ _ => rfl) ?_
        refine r_vret dX1_passOn_83 rfl ?_
        exact ⟨_, rfl, by rfl, by rw [f_X1_passOn, if_neg c1, if_pos c6, if_pos c11]⟩
      · refine r_iload dX1_passOn_29 rfl ?_
        refine r_if_ne (tgt := 44) dX1_passOn_31 (by decide) (fun c13 => ?_) (fun c13 => absurd c13 (by decide))
        refine r_aload_n dX1_passOn_44 rfl ?_
        refine r_iload dX1_passOn_45 rfl ?_
        refine r_if_eq (tgt := 59) dX1_passOn_47 (by decide) (fun c14 => absurd c14 (by decide)) (fun c14 => ?_)
        refine r_aload_n dX1_passOn_50 rfl ?_
        refine x_getI (c := 1) (x := (σ.1 1 o 7)) hE (fun _ _ => rfl) (fun _ => rfl) dX1_passOn_51 fl_RX1_67 ho rfl ?_
        refine r_iconst (v := (1 : Int32)) dX1_passOn_54 (by decide) ?_
        refine r_iadd dX1_passOn_55 ?_
        refine r_goto (tgt := 60) dX1_passOn_56 (by decide) ?_
        refine x_put (c := 1) (i := o) (k := 7) hE (fun _ _ => rfl) dX1_passOn_60 fp_RX1_67 ho rfl rfl (fun _ => Nat.le_of_ble_eq_true rfl) (fun _ _ => rfl) ?_
        refine r_aload_n dX1_passOn_63 rfl ?_
        refine r_dup dX1_passOn_64 rfl ?_
        refine x_getI (c := 1) (x := ((xp σ 1 o 7 ((σ.1 1 o 7) + (1 : Int32))).1 1 o 4)) hE (fun _ _ => rfl) (fun _ => rfl) dX1_passOn_65 fl_RX1_61 ho rfl ?_
        refine r_iconst (v := (1 : Int32)) dX1_passOn_68 (by decide) ?_
        refine r_iadd dX1_passOn_69 ?_
        refine x_put (c := 1) (i := o) (k := 4) hE (fun _ _ => rfl) dX1_passOn_70 fp_RX1_61 ho rfl rfl (fun _ => Nat.le_of_ble_eq_true rfl) (fun _ _ => rfl) ?_
        refine r_aload_n dX1_passOn_73 rfl ?_
        refine r_iload_n dX1_passOn_74 rfl ?_
        refine x_put (c := 1) (i := o) (k := 5) hE (fun _ _ => rfl) dX1_passOn_75 fp_RX1_34 ho rfl rfl (fun _ => Nat.le_of_ble_eq_true rfl) (fun _ _ => rfl) ?_
        refine r_aload_n dX1_passOn_78 rfl ?_
        refine r_iload_n dX1_passOn_79 rfl ?_
        refine x_put (c := 1) (i := o) (k := 8) hE (fun _ _ => rfl) dX1_passOn_80 fp_RX1_70 ho rfl rfl (fun _ => Nat.le_of_ble_eq_true rfl) (fun _ _ => rfl) ?_
        refine r_vret dX1_passOn_83 rfl ?_
        exact ⟨_, rfl, by rfl, by rw [f_X1_passOn, if_neg c1, if_pos c6, if_neg c11]⟩

def f_X1_forgetSales (S : XSh) (σ : XSt) (o : Nat) : XSt := (xp (xp (xp (xp (xp σ 1 o 4 (0 : Int32)) 1 o 5 (-1 : Int32)) 1 o 6 (0 : Int32)) 1 o 7 (0 : Int32)) 1 o 8 (0 : Int32))
set_option maxRecDepth 100000 in
set_option maxHeartbeats 1000000 in
theorem ok_X1_forgetSales {g : GC} {B : hH} {am : XAd} {S : XSh} {d : Nat} (hE : XOk am S) (hX : GX g) (hd : 0 ≤ d) (σ : XSt) (o : Nat) (ho : o < lim S 1) : XC g B am S d yX1_forgetSales cX1_forgetSales 1 none [.ref (am 1 o)] (fun v σ' => v = none ∧ σ' = (f_X1_forgetSales S σ o)) σ := by
  refine AM.of2 (own := RX1) (nm := "forgetSales") (L0 := [(0, .ref (am 1 o))]) (by decide) rfl rfl (Nat.le_of_ble_eq_true rfl) rfl ?_
  refine r_aload_n dX1_forgetSales_0 rfl ?_
  refine r_iconst (v := (0 : Int32)) dX1_forgetSales_1 (by decide) ?_
  refine x_put (c := 1) (i := o) (k := 4) hE (fun _ _ => rfl) dX1_forgetSales_2 fp_RX1_61 ho rfl rfl (fun _ => Nat.le_of_ble_eq_true rfl) (fun _ _ => rfl) ?_
  refine r_aload_n dX1_forgetSales_5 rfl ?_
  refine r_iconst (v := (-1 : Int32)) dX1_forgetSales_6 (by decide) ?_
  refine x_put (c := 1) (i := o) (k := 5) hE (fun _ _ => rfl) dX1_forgetSales_7 fp_RX1_34 ho rfl rfl (fun _ => Nat.le_of_ble_eq_true rfl) (fun _ _ => rfl) ?_
  refine r_aload_n dX1_forgetSales_10 rfl ?_
  refine r_iconst (v := (0 : Int32)) dX1_forgetSales_11 (by decide) ?_
  refine x_put (c := 1) (i := o) (k := 6) hE (fun _ _ => rfl) dX1_forgetSales_12 fp_RX1_64 ho rfl rfl (fun _ => Nat.le_of_ble_eq_true rfl) (fun _ _ => rfl) ?_
  refine r_aload_n dX1_forgetSales_15 rfl ?_
  refine r_iconst (v := (0 : Int32)) dX1_forgetSales_16 (by decide) ?_
  refine x_put (c := 1) (i := o) (k := 7) hE (fun _ _ => rfl) dX1_forgetSales_17 fp_RX1_67 ho rfl rfl (fun _ => Nat.le_of_ble_eq_true rfl) (fun _ _ => rfl) ?_
  refine r_aload_n dX1_forgetSales_20 rfl ?_
  refine r_iconst (v := (0 : Int32)) dX1_forgetSales_21 (by decide) ?_
  refine x_put (c := 1) (i := o) (k := 8) hE (fun _ _ => rfl) dX1_forgetSales_22 fp_RX1_70 ho rfl rfl (fun _ => Nat.le_of_ble_eq_true rfl) (fun _ _ => rfl) ?_
  refine r_vret dX1_forgetSales_25 rfl ?_
  exact ⟨_, rfl, by rfl, by rw [f_X1_forgetSales]⟩

def f_X7_judge (S : XSh) (σ : XSt) (o : Nat) (p1 : Int32) (p2 : Int32) (p3 : Int32) (p4 : Int32) : XSt := (if p3 = 0 then (if p4 = p1 then (xp (xp (xp σ 7 o 0 ((σ.1 7 o 0) + (1 : Int32))) 7 o 1 (((xp σ 7 o 0 ((σ.1 7 o 0) + (1 : Int32))).1 7 o 1) + (1 : Int32))) 7 o 2 (((xp (xp σ 7 o 0 ((σ.1 7 o 0) + (1 : Int32))) 7 o 1 (((xp σ 7 o 0 ((σ.1 7 o 0) + (1 : Int32))).1 7 o 1) + (1 : Int32))).1 7 o 2) + (1 : Int32))) else (xp (xp (xp σ 7 o 0 ((σ.1 7 o 0) + (1 : Int32))) 7 o 1 (((xp σ 7 o 0 ((σ.1 7 o 0) + (1 : Int32))).1 7 o 1) + (1 : Int32))) 7 o 2 (((xp (xp σ 7 o 0 ((σ.1 7 o 0) + (1 : Int32))) 7 o 1 (((xp σ 7 o 0 ((σ.1 7 o 0) + (1 : Int32))).1 7 o 1) + (1 : Int32))).1 7 o 2) + (0 : Int32)))) else (if p1 = p2 then (xp σ 7 o 0 ((σ.1 7 o 0) + (1 : Int32))) else (if p4 = p2 then (xp (xp (xp σ 7 o 0 ((σ.1 7 o 0) + (1 : Int32))) 7 o 3 (((xp σ 7 o 0 ((σ.1 7 o 0) + (1 : Int32))).1 7 o 3) + (1 : Int32))) 7 o 4 (((xp (xp σ 7 o 0 ((σ.1 7 o 0) + (1 : Int32))) 7 o 3 (((xp σ 7 o 0 ((σ.1 7 o 0) + (1 : Int32))).1 7 o 3) + (1 : Int32))).1 7 o 4) + (1 : Int32))) else (xp (xp (xp σ 7 o 0 ((σ.1 7 o 0) + (1 : Int32))) 7 o 3 (((xp σ 7 o 0 ((σ.1 7 o 0) + (1 : Int32))).1 7 o 3) + (1 : Int32))) 7 o 4 (((xp (xp σ 7 o 0 ((σ.1 7 o 0) + (1 : Int32))) 7 o 3 (((xp σ 7 o 0 ((σ.1 7 o 0) + (1 : Int32))).1 7 o 3) + (1 : Int32))).1 7 o 4) + (0 : Int32))))))
set_option maxRecDepth 100000 in
set_option maxHeartbeats 1000000 in
theorem ok_X7_judge {g : GC} {B : hH} {am : XAd} {S : XSh} {d : Nat} (hE : XOk am S) (hX : GX g) (hd : 0 ≤ d) (σ : XSt) (o : Nat) (p1 : Int32) (p2 : Int32) (p3 : Int32) (p4 : Int32) (ho : o < lim S 7) : XC g B am S d yX7_judge cX7_judge 5 none [.ref (am 7 o), .int p1, .int p2, .int p3, .int p4] (fun v σ' => v = none ∧ σ' = (f_X7_judge S σ o p1 p2 p3 p4)) σ := by
  refine AM.of2 (own := RX7) (nm := "judge") (L0 := [(0, .ref (am 7 o)), (1, .int p1), (2, .int p2), (3, .int p3), (4, .int p4)]) (by decide) rfl rfl (Nat.le_of_ble_eq_true rfl) rfl ?_
  refine r_aload_n dX7_judge_0 rfl ?_
  refine r_dup dX7_judge_1 rfl ?_
  refine x_getI (c := 7) (x := (σ.1 7 o 0)) hE (fun _ _ => rfl) (fun _ => rfl) dX7_judge_2 fl_RX7_7 ho rfl ?_
  refine r_iconst (v := (1 : Int32)) dX7_judge_5 (by decide) ?_
  refine r_iadd dX7_judge_6 ?_
  refine x_put (c := 7) (i := o) (k := 0) hE (fun _ _ => rfl) dX7_judge_7 fp_RX7_7 ho rfl rfl (fun _ => Nat.le_of_ble_eq_true rfl) (fun _ _ => rfl) ?_
  refine r_iload_n dX7_judge_10 rfl ?_
  refine r_if_ne (tgt := 47) dX7_judge_11 (by decide) (fun c1 => ?_) (fun c1 => ?_)
  · refine r_iload_n dX7_judge_47 rfl ?_
    refine r_iload_n dX7_judge_48 rfl ?_
    refine r_icmp_eq (tgt := 82) dX7_judge_49 (by decide) (fun c2 => ?_) (fun c2 => ?_)
    · refine r_vret dX7_judge_82 rfl ?_
      exact ⟨_, rfl, by rfl, by rw [f_X7_judge, if_neg c1, if_pos c2]⟩
    · refine r_aload_n dX7_judge_52 rfl ?_
      refine r_dup dX7_judge_53 rfl ?_
      refine x_getI (c := 7) (x := ((xp σ 7 o 0 ((σ.1 7 o 0) + (1 : Int32))).1 7 o 3)) hE (fun _ _ => rfl) (fun _ => rfl) dX7_judge_54 fl_RX7_19 ho rfl ?_
      refine r_iconst (v := (1 : Int32)) dX7_judge_57 (by decide) ?_
      refine r_iadd dX7_judge_58 ?_
      refine x_put (c := 7) (i := o) (k := 3) hE (fun _ _ => rfl) dX7_judge_59 fp_RX7_19 ho rfl rfl (fun _ => Nat.le_of_ble_eq_true rfl) (fun _ _ => rfl) ?_
      refine r_aload_n dX7_judge_62 rfl ?_
      refine r_dup dX7_judge_63 rfl ?_
      refine x_getI (c := 7) (x := ((xp (xp σ 7 o 0 ((σ.1 7 o 0) + (1 : Int32))) 7 o 3 (((xp σ 7 o 0 ((σ.1 7 o 0) + (1 : Int32))).1 7 o 3) + (1 : Int32))).1 7 o 4)) hE (fun _ _ => rfl) (fun _ => rfl) dX7_judge_64 fl_RX7_22 ho rfl ?_
      refine r_iload dX7_judge_67 rfl ?_
      refine r_iload_n dX7_judge_69 rfl ?_
      refine r_icmp_ne (tgt := 77) dX7_judge_70 (by decide) (fun c3 => ?_) (fun c3 => ?_)
      · refine r_iconst (v := (0 : Int32)) dX7_judge_77 (by decide) ?_
        refine r_iadd dX7_judge_78 ?_
        refine x_put (c := 7) (i := o) (k := 4) hE (fun _ _ => rfl) dX7_judge_79 fp_RX7_22 ho rfl rfl (fun _ => Nat.le_of_ble_eq_true rfl) (fun _ _ => rfl) ?_
        refine r_vret dX7_judge_82 rfl ?_
        exact ⟨_, rfl, by rfl, by rw [f_X7_judge, if_neg c1, if_neg c2, if_neg c3]⟩
      · refine r_iconst (v := (1 : Int32)) dX7_judge_73 (by decide) ?_
        refine r_goto (tgt := 78) dX7_judge_74 (by decide) ?_
        refine r_iadd dX7_judge_78 ?_
        refine x_put (c := 7) (i := o) (k := 4) hE (fun _ _ => rfl) dX7_judge_79 fp_RX7_22 ho rfl rfl (fun _ => Nat.le_of_ble_eq_true rfl) (fun _ _ => rfl) ?_
        refine r_vret dX7_judge_82 rfl ?_
        exact ⟨_, rfl, by rfl, by rw [f_X7_judge, if_neg c1, if_neg c2, if_pos c3]⟩
  · refine r_aload_n dX7_judge_14 rfl ?_
    refine r_dup dX7_judge_15 rfl ?_
    refine x_getI (c := 7) (x := ((xp σ 7 o 0 ((σ.1 7 o 0) + (1 : Int32))).1 7 o 1)) hE (fun _ _ => rfl) (fun _ => rfl) dX7_judge_16 fl_RX7_13 ho rfl ?_
    refine r_iconst (v := (1 : Int32)) dX7_judge_19 (by decide) ?_
    refine r_iadd dX7_judge_20 ?_
    refine x_put (c := 7) (i := o) (k := 1) hE (fun _ _ => rfl) dX7_judge_21 fp_RX7_13 ho rfl rfl (fun _ => Nat.le_of_ble_eq_true rfl) (fun _ _ => rfl) ?_
    refine r_aload_n dX7_judge_24 rfl ?_
    refine r_dup dX7_judge_25 rfl ?_
    refine x_getI (c := 7) (x := ((xp (xp σ 7 o 0 ((σ.1 7 o 0) + (1 : Int32))) 7 o 1 (((xp σ 7 o 0 ((σ.1 7 o 0) + (1 : Int32))).1 7 o 1) + (1 : Int32))).1 7 o 2)) hE (fun _ _ => rfl) (fun _ => rfl) dX7_judge_26 fl_RX7_16 ho rfl ?_
    refine r_iload dX7_judge_29 rfl ?_
    refine r_iload_n dX7_judge_31 rfl ?_
    refine r_icmp_ne (tgt := 39) dX7_judge_32 (by decide) (fun c4 => ?_) (fun c4 => ?_)
    · refine r_iconst (v := (0 : Int32)) dX7_judge_39 (by decide) ?_
      refine r_iadd dX7_judge_40 ?_
      refine x_put (c := 7) (i := o) (k := 2) hE (fun _ _ => rfl) dX7_judge_41 fp_RX7_16 ho rfl rfl (fun _ => Nat.le_of_ble_eq_true rfl) (fun _ _ => rfl) ?_
      refine r_goto (tgt := 82) dX7_judge_44 (by decide) ?_
      refine r_vret dX7_judge_82 rfl ?_
      exact ⟨_, rfl, by rfl, by rw [f_X7_judge, if_pos c1, if_neg c4]⟩
    · refine r_iconst (v := (1 : Int32)) dX7_judge_35 (by decide) ?_
      refine r_goto (tgt := 40) dX7_judge_36 (by decide) ?_
      refine r_iadd dX7_judge_40 ?_
      refine x_put (c := 7) (i := o) (k := 2) hE (fun _ _ => rfl) dX7_judge_41 fp_RX7_16 ho rfl rfl (fun _ => Nat.le_of_ble_eq_true rfl) (fun _ _ => rfl) ?_
      refine r_goto (tgt := 82) dX7_judge_44 (by decide) ?_
      refine r_vret dX7_judge_82 rfl ?_
      exact ⟨_, rfl, by rfl, by rw [f_X7_judge, if_pos c1, if_pos c4]⟩

def f_X6_become (S : XSh) (σ : XSt) (o : Nat) (p1 : Int32) (p2 : Int32) : XSt := (xp (xp (xb σ 30 o (fillF 40 (0 : Int32) (σ.2 30 o))) 6 o 1 p1) 6 o 2 p2)
set_option maxRecDepth 100000 in
set_option maxHeartbeats 1000000 in
theorem ok_X6_become {g : GC} {B : hH} {am : XAd} {S : XSh} {d : Nat} (hE : XOk am S) (hX : GX g) (hd : 1 ≤ d) (σ : XSt) (o : Nat) (p1 : Int32) (p2 : Int32) (ho : o < lim S 6) : XC g B am S d yX6_become cX6_become 3 none [.ref (am 6 o), .int p1, .int p2] (fun v σ' => v = none ∧ σ' = (f_X6_become S σ o p1 p2)) σ := by
  refine AM.of2 (own := RX6) (nm := "become") (L0 := [(0, .ref (am 6 o)), (1, .int p1), (2, .int p2)]) (by decide) rfl rfl (Nat.le_of_ble_eq_true rfl) rfl ?_
  refine r_aload_n dX6_become_0 rfl ?_
  refine x_get (c := 6) hE (fun _ _ => rfl) dX6_become_1 fl_RX6_9 ho rfl ?_
  refine r_iconst (v := (0 : Int32)) dX6_become_4 (by decide) ?_
  refine x_fill (N := 40) hE (fun _ _ => rfl) dX6_become_5 ml_RX6_19 ho (by omega) (Nat.le_of_ble_eq_true rfl) (Nat.le_of_ble_eq_true rfl) ?_
  refine r_aload_n dX6_become_8 rfl ?_
  refine r_iload_n dX6_become_9 rfl ?_
  refine x_put (c := 6) (i := o) (k := 1) hE (fun _ _ => rfl) dX6_become_10 fp_RX6_15 ho rfl rfl (fun _ => Nat.le_of_ble_eq_true rfl) (fun _ _ => rfl) ?_
  refine r_aload_n dX6_become_13 rfl ?_
  refine r_iload_n dX6_become_14 rfl ?_
  refine x_put (c := 6) (i := o) (k := 2) hE (fun _ _ => rfl) dX6_become_15 fp_RX6_25 ho rfl rfl (fun _ => Nat.le_of_ble_eq_true rfl) (fun _ _ => rfl) ?_
  refine r_vret dX6_become_18 rfl ?_
  exact ⟨_, rfl, by rfl, by rw [f_X6_become]⟩

def f_X6_cut (S : XSh) (σ : XSt) (o : Nat) (p1 : Int32) : Int32 := (if (σ.1 6 o 1) = 0 then (Int8.toInt32 (Int32.toInt8 p1)) else (if (σ.1 6 o 1) = (1 : Int32) then (Int16.toInt32 (Int32.toInt16 p1)) else p1))
set_option maxRecDepth 100000 in
set_option maxHeartbeats 1000000 in
theorem ok_X6_cut {g : GC} {B : hH} {am : XAd} {S : XSh} {d : Nat} (hE : XOk am S) (hX : GX g) (hd : 0 ≤ d) (σ : XSt) (o : Nat) (p1 : Int32) (ho : o < lim S 6) : XC g B am S d yX6_cut cX6_cut 2 (some FieldType.int) [.ref (am 6 o), .int p1] (fun v σ' => v = some (.int (f_X6_cut S σ o p1)) ∧ σ' = σ) σ := by
  refine AM.of2 (own := RX6) (nm := "cut") (L0 := [(0, .ref (am 6 o)), (1, .int p1)]) (by decide) rfl rfl (Nat.le_of_ble_eq_true rfl) rfl ?_
  refine r_aload_n dX6_cut_0 rfl ?_
  refine x_getI (c := 6) (x := (σ.1 6 o 1)) hE (fun _ _ => rfl) (fun _ => rfl) dX6_cut_1 fl_RX6_15 ho rfl ?_
  refine r_if_ne (tgt := 12) dX6_cut_4 (by decide) (fun c1 => ?_) (fun c1 => ?_)
  · refine r_aload_n dX6_cut_12 rfl ?_
    refine x_getI (c := 6) (x := (σ.1 6 o 1)) hE (fun _ _ => rfl) (fun _ => rfl) dX6_cut_13 fl_RX6_15 ho rfl ?_
    refine r_iconst (v := (1 : Int32)) dX6_cut_16 (by decide) ?_
    refine r_icmp_ne (tgt := 25) dX6_cut_17 (by decide) (fun c2 => ?_) (fun c2 => ?_)
    · refine r_iload_n dX6_cut_25 rfl ?_
      refine r_iret dX6_cut_26 rfl rfl ?_
      exact ⟨_, rfl, by rw [f_X6_cut, if_neg c1, if_neg c2], rfl⟩
    · refine r_iload_n dX6_cut_20 rfl ?_
      refine r_i2s dX6_cut_21 ?_
      refine r_goto (tgt := 26) dX6_cut_22 (by decide) ?_
      refine r_iret dX6_cut_26 rfl rfl ?_
      exact ⟨_, rfl, by rw [f_X6_cut, if_neg c1, if_pos c2], rfl⟩
  · refine r_iload_n dX6_cut_7 rfl ?_
    refine r_i2b dX6_cut_8 ?_
    refine r_goto (tgt := 26) dX6_cut_9 (by decide) ?_
    refine r_iret dX6_cut_26 rfl rfl ?_
    exact ⟨_, rfl, by rw [f_X6_cut, if_pos c1], rfl⟩

def f_X6_has (S : XSh) (σ : XSt) (o : Nat) (p1 : Int32) (p2 : Int32) : Int32 := (if p1 < 0 then (0 : Int32) else (if p2 < 0 then (0 : Int32) else (if ((σ.1 6 o 2) - p2) < p1 then (0 : Int32) else (1 : Int32))))
set_option maxRecDepth 100000 in
set_option maxHeartbeats 1000000 in
theorem ok_X6_has {g : GC} {B : hH} {am : XAd} {S : XSh} {d : Nat} (hE : XOk am S) (hX : GX g) (hd : 0 ≤ d) (σ : XSt) (o : Nat) (p1 : Int32) (p2 : Int32) (ho : o < lim S 6) : XC g B am S d yX6_has cX6_has 3 (some FieldType.boolean) [.ref (am 6 o), .int p1, .int p2] (fun v σ' => v = some (.int (f_X6_has S σ o p1 p2)) ∧ σ' = σ) σ := by
  refine AM.of2 (own := RX6) (nm := "has") (L0 := [(0, .ref (am 6 o)), (1, .int p1), (2, .int p2)]) (by decide) rfl rfl (Nat.le_of_ble_eq_true rfl) rfl ?_
  refine r_iload_n dX6_has_0 rfl ?_
  refine r_if_lt (tgt := 22) dX6_has_1 (by decide) (fun c1 => ?_) (fun c1 => ?_)
  · refine r_iconst (v := (0 : Int32)) dX6_has_22 (by decide) ?_
    refine r_iret dX6_has_23 rfl (by decide) ?_
    exact ⟨_, rfl, by rw [f_X6_has, if_pos c1], rfl⟩
  · refine r_iload_n dX6_has_4 rfl ?_
    refine r_if_lt (tgt := 22) dX6_has_5 (by decide) (fun c2 => ?_) (fun c2 => ?_)
    · refine r_iconst (v := (0 : Int32)) dX6_has_22 (by decide) ?_
      refine r_iret dX6_has_23 rfl (by decide) ?_
      exact ⟨_, rfl, by rw [f_X6_has, if_neg c1, if_pos c2], rfl⟩
    · refine r_iload_n dX6_has_8 rfl ?_
      refine r_aload_n dX6_has_9 rfl ?_
      refine x_getI (c := 6) (x := (σ.1 6 o 2)) hE (fun _ _ => rfl) (fun _ => rfl) dX6_has_10 fl_RX6_25 ho rfl ?_
      refine r_iload_n dX6_has_13 rfl ?_
      refine r_isub dX6_has_14 ?_
      refine r_icmp_gt (tgt := 22) dX6_has_15 (by decide) (fun c3 => ?_) (fun c3 => ?_)
      · refine r_iconst (v := (0 : Int32)) dX6_has_22 (by decide) ?_
        refine r_iret dX6_has_23 rfl (by decide) ?_
        exact ⟨_, rfl, by rw [f_X6_has, if_neg c1, if_neg c2, if_pos c3], rfl⟩
      · refine r_iconst (v := (1 : Int32)) dX6_has_18 (by decide) ?_
        refine r_goto (tgt := 23) dX6_has_19 (by decide) ?_
        refine r_iret dX6_has_23 rfl (by decide) ?_
        exact ⟨_, rfl, by rw [f_X6_has, if_neg c1, if_neg c2, if_neg c3], rfl⟩
theorem bz_X6_has (S : XSh) (σ : XSt) (o : Nat) (p1 : Int32) (p2 : Int32) : narrow .boolean (.int (f_X6_has S σ o p1 p2)) = .int (f_X6_has S σ o p1 p2) := by
  unfold f_X6_has
  (repeat' split) <;> first | rfl | decide | skip

def f_X4_put (S : XSh) (σ : XSt) (p1 : Int32) : XSt := (if (160 : Int32) ≤ (σ.1 4 0 2) then σ else (xp (xa σ 28 0 (Int32.toNatClampNeg (σ.1 4 0 2)) (vp_nar .byte (Int8.toInt32 (Int32.toInt8 p1)))) 4 0 2 ((σ.1 4 0 2) + (1 : Int32))))
set_option maxRecDepth 100000 in
set_option maxHeartbeats 1000000 in
theorem ok_X4_put {g : GC} {B : hH} {am : XAd} {S : XSh} {d : Nat} (hE : XOk am S) (hX : GX g) (hd : 0 ≤ d) (σ : XSt) (p1 : Int32) (h0 : Ct (σ.1 4 0 2) 160) : XC g B am S d yX4_put cX4_put 2 none [.ref (am 4 0), .int p1] (fun v σ' => v = none ∧ σ' = (f_X4_put S σ p1)) σ := by
  refine AM.of2 (own := RX4) (nm := "put") (L0 := [(0, .ref (am 4 0)), (1, .int p1)]) (by decide) rfl rfl (Nat.le_of_ble_eq_true rfl) rfl ?_
  refine r_aload_n dX4_put_0 rfl ?_
  refine x_getI (c := 4) (x := (σ.1 4 0 2)) hE (fun _ _ => rfl) (fun _ => rfl) dX4_put_1 fl_RX4_23 (Nat.le_of_ble_eq_true rfl) rfl ?_
  refine r_sipush (v := (160 : Int32)) dX4_put_4 (by decide) ?_
  refine r_icmp_ge (tgt := 31) dX4_put_7 (by decide) (fun c1 => ?_) (fun c1 => ?_)
  · refine r_vret dX4_put_31 rfl ?_
    exact ⟨_, rfl, by rfl, by rw [f_X4_put, if_pos c1]⟩
  · refine r_aload_n dX4_put_10 rfl ?_
    refine x_get (c := 4) hE (fun _ _ => rfl) dX4_put_11 fl_RX4_9 (Nat.le_of_ble_eq_true rfl) rfl ?_
    refine r_aload_n dX4_put_14 rfl ?_
    refine x_getI (c := 4) (x := (σ.1 4 0 2)) hE (fun _ _ => rfl) (fun _ => rfl) dX4_put_15 fl_RX4_23 (Nat.le_of_ble_eq_true rfl) rfl ?_
    refine r_iload_n dX4_put_18 rfl ?_
    refine r_i2b dX4_put_19 ?_
    refine x_bast (c := 28) (i := 0) (N := 160) hE (fun _ _ => rfl) dX4_put_20 (Nat.le_of_ble_eq_true rfl) (by exact (Ct.up (by decide) ct160 h0 (by with_reducible assumption)).1) ?_
    refine r_aload_n dX4_put_21 rfl ?_
    refine r_dup dX4_put_22 rfl ?_
    refine x_getI (c := 4) (x := (σ.1 4 0 2)) hE (fun _ _ => rfl) (fun _ => rfl) dX4_put_23 fl_RX4_23 (Nat.le_of_ble_eq_true rfl) (Eq.trans xa_f rfl) ?_
    refine r_iconst (v := (1 : Int32)) dX4_put_26 (by decide) ?_
    refine r_iadd dX4_put_27 ?_
    refine x_put (c := 4) (i := 0) (k := 2) hE (fun _ _ => rfl) dX4_put_28 fp_RX4_23 (Nat.le_of_ble_eq_true rfl) rfl rfl (fun _ => Nat.le_of_ble_eq_true rfl) (fun _ _ => rfl) ?_
    refine r_vret dX4_put_31 rfl ?_
    exact ⟨_, rfl, by rfl, by rw [f_X4_put, if_neg c1]⟩

def f_X3_write (S : XSh) (σ : XSt) (p1 : Int32) (p2 : Int32) (p3 : Int32) (p4 : Int32) : Int32 × XSt := (if (σ.1 3 0 5) < (40 : Int32) then ((((σ.1 3 0 5) + (1 : Int32)) - (1 : Int32)), (xp (xa (xa (xa (xa (xa σ 23 0 (Int32.toNatClampNeg (σ.1 3 0 5)) p1) 24 0 (Int32.toNatClampNeg (σ.1 3 0 5)) (p2 / (10 : Int32))) 25 0 (Int32.toNatClampNeg (σ.1 3 0 5)) (p2 - p2 / (10 : Int32) * (10 : Int32))) 26 0 (Int32.toNatClampNeg (σ.1 3 0 5)) p3) 27 0 (Int32.toNatClampNeg (σ.1 3 0 5)) p4) 3 0 5 ((σ.1 3 0 5) + (1 : Int32)))) else ((-4 : Int32), σ))
set_option maxRecDepth 100000 in
set_option maxHeartbeats 1000000 in
theorem ok_X3_write {g : GC} {B : hH} {am : XAd} {S : XSh} {d : Nat} (hE : XOk am S) (hX : GX g) (hd : 0 ≤ d) (σ : XSt) (p1 : Int32) (p2 : Int32) (p3 : Int32) (p4 : Int32) (h0 : Ct (σ.1 3 0 5) 40) : XC g B am S d yX3_write cX3_write 5 (some FieldType.int) [.ref (am 3 0), .int p1, .int p2, .int p3, .int p4] (fun v σ' => v = some (.int (f_X3_write S σ p1 p2 p3 p4).1) ∧ σ' = (f_X3_write S σ p1 p2 p3 p4).2) σ := by
  refine AM.of2 (own := RX3) (nm := "write") (L0 := [(0, .ref (am 3 0)), (1, .int p1), (2, .int p2), (3, .int p3), (4, .int p4)]) (by decide) rfl rfl (Nat.le_of_ble_eq_true rfl) rfl ?_
  refine r_aload_n dX3_write_0 rfl ?_
  refine x_getI (c := 3) (x := (σ.1 3 0 5)) hE (fun _ _ => rfl) (fun _ => rfl) dX3_write_1 fl_RX3_27 (Nat.le_of_ble_eq_true rfl) rfl ?_
  refine r_bipush (v := (40 : Int32)) dX3_write_4 (by decide) ?_
  refine r_icmp_lt (tgt := 12) dX3_write_6 (by decide) (fun c1 => ?_) (fun c1 => ?_)
  · refine r_aload_n dX3_write_12 rfl ?_
    refine x_get (c := 3) hE (fun _ _ => rfl) dX3_write_13 fl_RX3_9 (Nat.le_of_ble_eq_true rfl) rfl ?_
    refine r_aload_n dX3_write_16 rfl ?_
    refine x_getI (c := 3) (x := (σ.1 3 0 5)) hE (fun _ _ => rfl) (fun _ => rfl) dX3_write_17 fl_RX3_27 (Nat.le_of_ble_eq_true rfl) rfl ?_
    refine r_iload_n dX3_write_20 rfl ?_
    refine x_iast (c := 23) (i := 0) (N := 40) hE (fun _ _ => rfl) dX3_write_21 (Nat.le_of_ble_eq_true rfl) (by exact (Ct.up' (by decide) ct40 h0 (by with_reducible assumption)).1) ?_
    refine r_aload_n dX3_write_22 rfl ?_
    refine x_get (c := 3) hE (fun _ _ => rfl) dX3_write_23 fl_RX3_15 (Nat.le_of_ble_eq_true rfl) rfl ?_
    refine r_aload_n dX3_write_26 rfl ?_
    refine x_getI (c := 3) (x := (σ.1 3 0 5)) hE (fun _ _ => rfl) (fun _ => rfl) dX3_write_27 fl_RX3_27 (Nat.le_of_ble_eq_true rfl) (Eq.trans xa_f rfl) ?_
    refine r_iload_n dX3_write_30 rfl ?_
    refine r_bipush (v := (10 : Int32)) dX3_write_31 (by decide) ?_
    refine r_idiv dX3_write_33 (by decide) ?_
    refine x_iast (c := 24) (i := 0) (N := 40) hE (fun _ _ => rfl) dX3_write_34 (Nat.le_of_ble_eq_true rfl) (by exact (Ct.up' (by decide) ct40 h0 (by with_reducible assumption)).1) ?_
    refine r_aload_n dX3_write_35 rfl ?_
    refine x_get (c := 3) hE (fun _ _ => rfl) dX3_write_36 fl_RX3_18 (Nat.le_of_ble_eq_true rfl) rfl ?_
    refine r_aload_n dX3_write_39 rfl ?_
    refine x_getI (c := 3) (x := (σ.1 3 0 5)) hE (fun _ _ => rfl) (fun _ => rfl) dX3_write_40 fl_RX3_27 (Nat.le_of_ble_eq_true rfl) (Eq.trans xa_f (Eq.trans xa_f rfl)) ?_
    refine r_iload_n dX3_write_43 rfl ?_
    refine r_bipush (v := (10 : Int32)) dX3_write_44 (by decide) ?_
    refine r_irem dX3_write_46 (by decide) ?_
    refine x_iast (c := 25) (i := 0) (N := 40) hE (fun _ _ => rfl) dX3_write_47 (Nat.le_of_ble_eq_true rfl) (by exact (Ct.up' (by decide) ct40 h0 (by with_reducible assumption)).1) ?_
    refine r_aload_n dX3_write_48 rfl ?_
    refine x_get (c := 3) hE (fun _ _ => rfl) dX3_write_49 fl_RX3_21 (Nat.le_of_ble_eq_true rfl) rfl ?_
    refine r_aload_n dX3_write_52 rfl ?_
    refine x_getI (c := 3) (x := (σ.1 3 0 5)) hE (fun _ _ => rfl) (fun _ => rfl) dX3_write_53 fl_RX3_27 (Nat.le_of_ble_eq_true rfl) (Eq.trans xa_f (Eq.trans xa_f (Eq.trans xa_f rfl))) ?_
    refine r_iload_n dX3_write_56 rfl ?_
    refine x_iast (c := 26) (i := 0) (N := 40) hE (fun _ _ => rfl) dX3_write_57 (Nat.le_of_ble_eq_true rfl) (by exact (Ct.up' (by decide) ct40 h0 (by with_reducible assumption)).1) ?_
    refine r_aload_n dX3_write_58 rfl ?_
    refine x_get (c := 3) hE (fun _ _ => rfl) dX3_write_59 fl_RX3_24 (Nat.le_of_ble_eq_true rfl) rfl ?_
    refine r_aload_n dX3_write_62 rfl ?_
    refine x_getI (c := 3) (x := (σ.1 3 0 5)) hE (fun _ _ => rfl) (fun _ => rfl) dX3_write_63 fl_RX3_27 (Nat.le_of_ble_eq_true rfl) (Eq.trans xa_f (Eq.trans xa_f (Eq.trans xa_f (Eq.trans xa_f rfl)))) ?_
    refine r_iload dX3_write_66 rfl ?_
    refine x_iast (c := 27) (i := 0) (N := 40) hE (fun _ _ => rfl) dX3_write_68 (Nat.le_of_ble_eq_true rfl) (by exact (Ct.up' (by decide) ct40 h0 (by with_reducible assumption)).1) ?_
    refine r_aload_n dX3_write_69 rfl ?_
    refine r_dup dX3_write_70 rfl ?_
    refine x_getI (c := 3) (x := (σ.1 3 0 5)) hE (fun _ _ => rfl) (fun _ => rfl) dX3_write_71 fl_RX3_27 (Nat.le_of_ble_eq_true rfl) (Eq.trans xa_f (Eq.trans xa_f (Eq.trans xa_f (Eq.trans xa_f (Eq.trans xa_f rfl))))) ?_
    refine r_iconst (v := (1 : Int32)) dX3_write_74 (by decide) ?_
    refine r_iadd dX3_write_75 ?_
    refine x_put (c := 3) (i := 0) (k := 5) hE (fun _ _ => rfl) dX3_write_76 fp_RX3_27 (Nat.le_of_ble_eq_true rfl) rfl rfl (fun _ => Nat.le_of_ble_eq_true rfl) (fun _ _ => rfl) ?_
    refine r_aload_n dX3_write_79 rfl ?_
    refine x_getI (c := 3) (x := ((σ.1 3 0 5) + (1 : Int32))) hE (fun _ _ => rfl) (fun _ => rfl) dX3_write_80 fl_RX3_27 (Nat.le_of_ble_eq_true rfl) (xp_s _ _ _ _ _) ?_
    refine r_iconst (v := (1 : Int32)) dX3_write_83 (by decide) ?_
    refine r_isub dX3_write_84 ?_
    refine r_iret dX3_write_85 rfl rfl ?_
    exact ⟨_, rfl, by rw [f_X3_write, if_pos c1], by rw [f_X3_write, if_pos c1]⟩
  · refine r_bipush (v := (-4 : Int32)) dX3_write_9 (by decide) ?_
    refine r_iret dX3_write_11 rfl rfl ?_
    exact ⟨_, rfl, by rw [f_X3_write, if_neg c1], by rw [f_X3_write, if_neg c1]⟩

def f_X3_handsOf_L4 : Nat → XSh → XSt → Int32 → Int32 → Int32 → Int32
  | 0, _, _, _, _, _ => 0
  | n + 1, S, σ, l1, l2, l3 => (if (σ.1 3 0 5) ≤ l3 then l2 else (if (σ.2 23 0 (Int32.toNatClampNeg l3)) = l1 then (f_X3_handsOf_L4 n S σ l1 (l2 ||| (((1 : Int32) <<< ((σ.2 24 0 (Int32.toNatClampNeg l3)) &&& 31)) ||| ((1 : Int32) <<< ((σ.2 25 0 (Int32.toNatClampNeg l3)) &&& 31)))) (l3 + (1 : Int32))) else (f_X3_handsOf_L4 n S σ l1 l2 (l3 + (1 : Int32)))))
set_option maxRecDepth 100000 in
set_option maxHeartbeats 1000000 in
theorem lp_X3_handsOf_4 {g : GC} {B : hH} {am : XAd} {S : XSh} {d : Nat} {K : Option Value → XSt → Prop} (hE : XOk am S) (hX : GX g) (hd : 0 ≤ d) : ∀ (fuel : Nat) (σ : XSt) (l1 : Int32) (l2 : Int32) (l3 : Int32), Ct (σ.1 3 0 5) 40 → Ct l3 40 → 41 - l3.toNatClampNeg < fuel → K (some (.int (f_X3_handsOf_L4 fuel S σ l1 l2 l3))) σ → XW g B am S RX3 cX3_handsOf 4 (some FieldType.int) "handsOf" d K 4 [(0, .ref (am 3 0)), (1, .int l1), (2, .int l2), (3, .int l3)] [] σ := by
  intro fuel
  induction fuel with
  | zero => intro σ l1 l2 l3 i0 i1 hm hK; exact absurd hm (Nat.not_lt_zero _)
  | succ n ih =>
    intro σ l1 l2 l3 i0 i1 hm hK
    refine r_iload_n dX3_handsOf_4 rfl ?_
    refine r_aload_n dX3_handsOf_5 rfl ?_
    refine x_getI (c := 3) (x := (σ.1 3 0 5)) hE (fun _ _ => rfl) (fun _ => rfl) dX3_handsOf_6 fl_RX3_27 (Nat.le_of_ble_eq_true rfl) rfl ?_
    refine r_icmp_ge (tgt := 48) dX3_handsOf_9 (by decide) (fun c1 => ?_) (fun c1 => ?_)
    · refine r_iload_n dX3_handsOf_48 rfl ?_
      refine r_iret dX3_handsOf_49 rfl rfl ?_
      exact ⟨_, rfl, by rw [f_X3_handsOf_L4, if_pos c1] at hK; exact hK⟩
    · refine r_aload_n dX3_handsOf_12 rfl ?_
      refine x_get (c := 3) hE (fun _ _ => rfl) dX3_handsOf_13 fl_RX3_9 (Nat.le_of_ble_eq_true rfl) rfl ?_
      refine r_iload_n dX3_handsOf_16 rfl ?_
      refine x_ialdV (c := 23) (i := 0) (N := 40) (x := (σ.2 23 0 (Int32.toNatClampNeg l3))) hE (fun _ _ => rfl) dX3_handsOf_17 (Nat.le_of_ble_eq_true rfl) (by exact (Ct.up (by decide) i0 i1 (by with_reducible assumption)).1) rfl ?_
      refine r_iload_n dX3_handsOf_18 rfl ?_
      refine r_icmp_ne (tgt := 42) dX3_handsOf_19 (by decide) (fun c2 => ?_) (fun c2 => ?_)
      · refine r_iinc2 (w := (1 : Int32)) dX3_handsOf_42 rfl (by decide) (by decide) ?_
        refine r_goto (tgt := 4) dX3_handsOf_45 (by decide) ?_
        refine r_loc (L' := [(0, .ref (am 3 0)), (1, .int l1), (2, .int l2), (3, .int (l3 + (1 : Int32)))]) [1, 2, 3, 0] rfl ?_
        exact ih σ  l1 l2 (l3 + (1 : Int32)) (by exact i0) (by exact (Ct.up (by decide) i0 i1 (by with_reducible assumption)).2.1) (by have u := (Ct.up (by decide) i0 i1 (by with_reducible assumption)).2.2; omega) (by rw [f_X3_handsOf_L4, if_neg c1, if_neg c2] at hK; exact hK)
      · refine r_iload_n dX3_handsOf_22 rfl ?_
        refine r_iconst (v := (1 : Int32)) dX3_handsOf_23 (by decide) ?_
        refine r_aload_n dX3_handsOf_24 rfl ?_
        refine x_get (c := 3) hE (fun _ _ => rfl) dX3_handsOf_25 fl_RX3_15 (Nat.le_of_ble_eq_true rfl) rfl ?_
        refine r_iload_n dX3_handsOf_28 rfl ?_
        refine x_ialdV (c := 24) (i := 0) (N := 40) (x := (σ.2 24 0 (Int32.toNatClampNeg l3))) hE (fun _ _ => rfl) dX3_handsOf_29 (Nat.le_of_ble_eq_true rfl) (by exact (Ct.up (by decide) i0 i1 (by with_reducible assumption)).1) rfl ?_
        refine r_ishl dX3_handsOf_30 ?_
        refine r_iconst (v := (1 : Int32)) dX3_handsOf_31 (by decide) ?_
        refine r_aload_n dX3_handsOf_32 rfl ?_
        refine x_get (c := 3) hE (fun _ _ => rfl) dX3_handsOf_33 fl_RX3_18 (Nat.le_of_ble_eq_true rfl) rfl ?_
        refine r_iload_n dX3_handsOf_36 rfl ?_
        refine x_ialdV (c := 25) (i := 0) (N := 40) (x := (σ.2 25 0 (Int32.toNatClampNeg l3))) hE (fun _ _ => rfl) dX3_handsOf_37 (Nat.le_of_ble_eq_true rfl) (by exact (Ct.up (by decide) i0 i1 (by with_reducible assumption)).1) rfl ?_
        refine r_ishl dX3_handsOf_38 ?_
        refine r_ior dX3_handsOf_39 ?_
        refine r_ior dX3_handsOf_40 ?_
        refine r_istore_n dX3_handsOf_41 (by decide) ?_
        refine r_iinc2 (w := (1 : Int32)) dX3_handsOf_42 rfl (by decide) (by decide) ?_
        refine r_goto (tgt := 4) dX3_handsOf_45 (by decide) ?_
        refine r_loc (L' := [(0, .ref (am 3 0)), (1, .int l1), (2, .int (l2 ||| (((1 : Int32) <<< ((σ.2 24 0 (Int32.toNatClampNeg l3)) &&& 31)) ||| ((1 : Int32) <<< ((σ.2 25 0 (Int32.toNatClampNeg l3)) &&& 31))))), (3, .int (l3 + (1 : Int32)))]) [2, 3, 1, 0] rfl ?_
        exact ih σ  l1 (l2 ||| (((1 : Int32) <<< ((σ.2 24 0 (Int32.toNatClampNeg l3)) &&& 31)) ||| ((1 : Int32) <<< ((σ.2 25 0 (Int32.toNatClampNeg l3)) &&& 31)))) (l3 + (1 : Int32)) (by exact i0) (by exact (Ct.up (by decide) i0 i1 (by with_reducible assumption)).2.1) (by have u := (Ct.up (by decide) i0 i1 (by with_reducible assumption)).2.2; omega) (by rw [f_X3_handsOf_L4, if_neg c1, if_pos c2] at hK; exact hK)
def f_X3_handsOf (S : XSh) (σ : XSt) (p1 : Int32) : Int32 := (f_X3_handsOf_L4 (42) S σ p1 (0 : Int32) (0 : Int32))
set_option maxRecDepth 100000 in
set_option maxHeartbeats 1000000 in
theorem ok_X3_handsOf {g : GC} {B : hH} {am : XAd} {S : XSh} {d : Nat} (hE : XOk am S) (hX : GX g) (hd : 0 ≤ d) (σ : XSt) (p1 : Int32) (h0 : Ct (σ.1 3 0 5) 40) : XC g B am S d yX3_handsOf cX3_handsOf 4 (some FieldType.int) [.ref (am 3 0), .int p1] (fun v σ' => v = some (.int (f_X3_handsOf S σ p1)) ∧ σ' = σ) σ := by
  refine AM.of2 (own := RX3) (nm := "handsOf") (L0 := [(0, .ref (am 3 0)), (1, .int p1)]) (by decide) rfl rfl (Nat.le_of_ble_eq_true rfl) rfl ?_
  refine r_iconst (v := (0 : Int32)) dX3_handsOf_0 (by decide) ?_
  refine r_istore_n dX3_handsOf_1 (by decide) ?_
  refine r_iconst (v := (0 : Int32)) dX3_handsOf_2 (by decide) ?_
  refine r_istore_n dX3_handsOf_3 (by decide) ?_
  refine r_loc (L' := [(0, .ref (am 3 0)), (1, .int p1), (2, .int (0 : Int32)), (3, .int (0 : Int32))]) [2, 3, 1, 0] rfl ?_
  exact lp_X3_handsOf_4 hE hX (by omega) (42) σ p1 (0 : Int32) (0 : Int32) (by exact h0) (by exact Ct.zero _) (by omega) ⟨by rw [f_X3_handsOf], rfl⟩

def f_X3_bottlesOf_L4 : Nat → XSh → XSt → Int32 → Int32 → Int32 → Int32
  | 0, _, _, _, _, _ => 0
  | n + 1, S, σ, l1, l2, l3 => (if (σ.1 3 0 5) ≤ l3 then l2 else (if (l1 &&& (((1 : Int32) <<< ((σ.2 24 0 (Int32.toNatClampNeg l3)) &&& 31)) ||| ((1 : Int32) <<< ((σ.2 25 0 (Int32.toNatClampNeg l3)) &&& 31)))) = 0 then (f_X3_bottlesOf_L4 n S σ l1 l2 (l3 + (1 : Int32))) else (f_X3_bottlesOf_L4 n S σ l1 (l2 ||| ((1 : Int32) <<< ((σ.2 23 0 (Int32.toNatClampNeg l3)) &&& 31))) (l3 + (1 : Int32)))))
set_option maxRecDepth 100000 in
set_option maxHeartbeats 1000000 in
theorem lp_X3_bottlesOf_4 {g : GC} {B : hH} {am : XAd} {S : XSh} {d : Nat} {K : Option Value → XSt → Prop} (hE : XOk am S) (hX : GX g) (hd : 0 ≤ d) : ∀ (fuel : Nat) (σ : XSt) (l1 : Int32) (l2 : Int32) (l3 : Int32), Ct (σ.1 3 0 5) 40 → Ct l3 40 → 41 - l3.toNatClampNeg < fuel → K (some (.int (f_X3_bottlesOf_L4 fuel S σ l1 l2 l3))) σ → XW g B am S RX3 cX3_bottlesOf 4 (some FieldType.int) "bottlesOf" d K 4 [(0, .ref (am 3 0)), (1, .int l1), (2, .int l2), (3, .int l3)] [] σ := by
  intro fuel
  induction fuel with
  | zero => intro σ l1 l2 l3 i0 i1 hm hK; exact absurd hm (Nat.not_lt_zero _)
  | succ n ih =>
    intro σ l1 l2 l3 i0 i1 hm hK
    refine r_iload_n dX3_bottlesOf_4 rfl ?_
    refine r_aload_n dX3_bottlesOf_5 rfl ?_
    refine x_getI (c := 3) (x := (σ.1 3 0 5)) hE (fun _ _ => rfl) (fun _ => rfl) dX3_bottlesOf_6 fl_RX3_27 (Nat.le_of_ble_eq_true rfl) rfl ?_
    refine r_icmp_ge (tgt := 51) dX3_bottlesOf_9 (by decide) (fun c1 => ?_) (fun c1 => ?_)
    · refine r_iload_n dX3_bottlesOf_51 rfl ?_
      refine r_iret dX3_bottlesOf_52 rfl rfl ?_
      exact ⟨_, rfl, by rw [f_X3_bottlesOf_L4, if_pos c1] at hK; exact hK⟩
    · refine r_iload_n dX3_bottlesOf_12 rfl ?_
      refine r_iconst (v := (1 : Int32)) dX3_bottlesOf_13 (by decide) ?_
      refine r_aload_n dX3_bottlesOf_14 rfl ?_
      refine x_get (c := 3) hE (fun _ _ => rfl) dX3_bottlesOf_15 fl_RX3_15 (Nat.le_of_ble_eq_true rfl) rfl ?_
      refine r_iload_n dX3_bottlesOf_18 rfl ?_
      refine x_ialdV (c := 24) (i := 0) (N := 40) (x := (σ.2 24 0 (Int32.toNatClampNeg l3))) hE (fun _ _ => rfl) dX3_bottlesOf_19 (Nat.le_of_ble_eq_true rfl) (by exact (Ct.up (by decide) i0 i1 (by with_reducible assumption)).1) rfl ?_
      refine r_ishl dX3_bottlesOf_20 ?_
      refine r_iconst (v := (1 : Int32)) dX3_bottlesOf_21 (by decide) ?_
      refine r_aload_n dX3_bottlesOf_22 rfl ?_
      refine x_get (c := 3) hE (fun _ _ => rfl) dX3_bottlesOf_23 fl_RX3_18 (Nat.le_of_ble_eq_true rfl) rfl ?_
      refine r_iload_n dX3_bottlesOf_26 rfl ?_
      refine x_ialdV (c := 25) (i := 0) (N := 40) (x := (σ.2 25 0 (Int32.toNatClampNeg l3))) hE (fun _ _ => rfl) dX3_bottlesOf_27 (Nat.le_of_ble_eq_true rfl) (by exact (Ct.up (by decide) i0 i1 (by with_reducible assumption)).1) rfl ?_
      refine r_ishl dX3_bottlesOf_28 ?_
      refine r_ior dX3_bottlesOf_29 ?_
      refine r_iand dX3_bottlesOf_30 ?_
      refine r_if_eq (tgt := 45) dX3_bottlesOf_31 (by decide) (fun c2 => ?_) (fun c2 => ?_)
      · refine r_iinc2 (w := (1 : Int32)) dX3_bottlesOf_45 rfl (by decide) (by decide) ?_
        refine r_goto (tgt := 4) dX3_bottlesOf_48 (by decide) ?_
        refine r_loc (L' := [(0, .ref (am 3 0)), (1, .int l1), (2, .int l2), (3, .int (l3 + (1 : Int32)))]) [1, 2, 3, 0] rfl ?_
        exact ih σ  l1 l2 (l3 + (1 : Int32)) (by exact i0) (by exact (Ct.up (by decide) i0 i1 (by with_reducible assumption)).2.1) (by have u := (Ct.up (by decide) i0 i1 (by with_reducible assumption)).2.2; omega) (by rw [f_X3_bottlesOf_L4, if_neg c1, if_pos c2] at hK; exact hK)
      · refine r_iload_n dX3_bottlesOf_34 rfl ?_
        refine r_iconst (v := (1 : Int32)) dX3_bottlesOf_35 (by decide) ?_
        refine r_aload_n dX3_bottlesOf_36 rfl ?_
        refine x_get (c := 3) hE (fun _ _ => rfl) dX3_bottlesOf_37 fl_RX3_9 (Nat.le_of_ble_eq_true rfl) rfl ?_
        refine r_iload_n dX3_bottlesOf_40 rfl ?_
        refine x_ialdV (c := 23) (i := 0) (N := 40) (x := (σ.2 23 0 (Int32.toNatClampNeg l3))) hE (fun _ _ => rfl) dX3_bottlesOf_41 (Nat.le_of_ble_eq_true rfl) (by exact (Ct.up (by decide) i0 i1 (by with_reducible assumption)).1) rfl ?_
        refine r_ishl dX3_bottlesOf_42 ?_
        refine r_ior dX3_bottlesOf_43 ?_
        refine r_istore_n dX3_bottlesOf_44 (by decide) ?_
        refine r_iinc2 (w := (1 : Int32)) dX3_bottlesOf_45 rfl (by decide) (by decide) ?_
        refine r_goto (tgt := 4) dX3_bottlesOf_48 (by decide) ?_
        refine r_loc (L' := [(0, .ref (am 3 0)), (1, .int l1), (2, .int (l2 ||| ((1 : Int32) <<< ((σ.2 23 0 (Int32.toNatClampNeg l3)) &&& 31)))), (3, .int (l3 + (1 : Int32)))]) [2, 3, 1, 0] rfl ?_
        exact ih σ  l1 (l2 ||| ((1 : Int32) <<< ((σ.2 23 0 (Int32.toNatClampNeg l3)) &&& 31))) (l3 + (1 : Int32)) (by exact i0) (by exact (Ct.up (by decide) i0 i1 (by with_reducible assumption)).2.1) (by have u := (Ct.up (by decide) i0 i1 (by with_reducible assumption)).2.2; omega) (by rw [f_X3_bottlesOf_L4, if_neg c1, if_neg c2] at hK; exact hK)
def f_X3_bottlesOf (S : XSh) (σ : XSt) (p1 : Int32) : Int32 := (f_X3_bottlesOf_L4 (42) S σ p1 (0 : Int32) (0 : Int32))
set_option maxRecDepth 100000 in
set_option maxHeartbeats 1000000 in
theorem ok_X3_bottlesOf {g : GC} {B : hH} {am : XAd} {S : XSh} {d : Nat} (hE : XOk am S) (hX : GX g) (hd : 0 ≤ d) (σ : XSt) (p1 : Int32) (h0 : Ct (σ.1 3 0 5) 40) : XC g B am S d yX3_bottlesOf cX3_bottlesOf 4 (some FieldType.int) [.ref (am 3 0), .int p1] (fun v σ' => v = some (.int (f_X3_bottlesOf S σ p1)) ∧ σ' = σ) σ := by
  refine AM.of2 (own := RX3) (nm := "bottlesOf") (L0 := [(0, .ref (am 3 0)), (1, .int p1)]) (by decide) rfl rfl (Nat.le_of_ble_eq_true rfl) rfl ?_
  refine r_iconst (v := (0 : Int32)) dX3_bottlesOf_0 (by decide) ?_
  refine r_istore_n dX3_bottlesOf_1 (by decide) ?_
  refine r_iconst (v := (0 : Int32)) dX3_bottlesOf_2 (by decide) ?_
  refine r_istore_n dX3_bottlesOf_3 (by decide) ?_
  refine r_loc (L' := [(0, .ref (am 3 0)), (1, .int p1), (2, .int (0 : Int32)), (3, .int (0 : Int32))]) [2, 3, 1, 0] rfl ?_
  exact lp_X3_bottlesOf_4 hE hX (by omega) (42) σ p1 (0 : Int32) (0 : Int32) (by exact h0) (by exact Ct.zero _) (by omega) ⟨by rw [f_X3_bottlesOf], rfl⟩

def f_X0_bars (S : XSh) (σ : XSt) (o : Nat) (p1 : Nat) (p2 : Int32) : Int32 := (if (f_X0_place p2 (f_X9_partOf (σ.1 1 p1 3) p2)) = (-1 : Int32) then (1 : Int32) else (if (σ.1 8 (S 1 p1) 1) < (σ.2 20 o (Int32.toNatClampNeg (f_X0_place p2 (f_X9_partOf (σ.1 1 p1 3) p2)))) then (1 : Int32) else (if (σ.1 8 (S 1 p1) 1) ≤ (σ.2 21 o (Int32.toNatClampNeg (f_X0_place p2 (f_X9_partOf (σ.1 1 p1 3) p2)))) then (0 : Int32) else (1 : Int32))))
set_option maxRecDepth 100000 in
set_option maxHeartbeats 1000000 in
theorem ok_X0_bars {g : GC} {B : hH} {am : XAd} {S : XSh} {d : Nat} (hE : XOk am S) (hX : GX g) (hd : 1 ≤ d) (σ : XSt) (o : Nat) (p1 : Nat) (p2 : Int32) (ho : o < lim S 0) (hp1 : p1 < lim S 1) (h0 : XInv S σ) : XC g B am S d yX0_bars cX0_bars 4 (some FieldType.boolean) [.ref (am 0 o), .ref (am 1 p1), .int p2] (fun v σ' => v = some (.int (f_X0_bars S σ o p1 p2)) ∧ σ' = σ) σ := by
  refine AM.of2 (own := RX0) (nm := "bars") (L0 := [(0, .ref (am 0 o)), (1, .ref (am 1 p1)), (2, .int p2)]) (by decide) rfl rfl (Nat.le_of_ble_eq_true rfl) rfl ?_
  refine r_iload_n dX0_bars_0 rfl ?_
  refine r_aload_n dX0_bars_1 rfl ?_
  refine x_getI (c := 1) (x := (σ.1 1 p1 3)) hE (fun _ _ => rfl) (fun _ => rfl) dX0_bars_2 fl_RX0_31 (by first | with_reducible assumption | exact h0.lab hp1) rfl ?_
  refine r_iload_n dX0_bars_5 rfl ?_
  refine r_callSN0 (host := "OldBottles") dX0_bars_6 mf_X9_partOf (hX.nw _ (List.mem_of_getElem? (i := 3) rfl)) (ok_X9_partOf (d := d - 1) (by omega) _ _) rfl rfl (Nat.le_of_ble_eq_true rfl) (by omega) ?_
  refine r_callS0 dX0_bars_9 mf_X0_place ml_RX0_27 (ok_X0_place (d := d - 1) (by omega) _ _) rfl rfl (Nat.le_of_ble_eq_true rfl) (by omega) ?_
  refine r_istore_n dX0_bars_12 (by decide) ?_
  refine r_iload_n dX0_bars_13 rfl ?_
  refine r_iconst (v := (-1 : Int32)) dX0_bars_14 (by decide) ?_
  refine r_icmp_eq (tgt := 50) dX0_bars_15 (by decide) (fun c1 => ?_) (fun c1 => ?_)
  · refine r_iconst (v := (1 : Int32)) dX0_bars_50 (by decide) ?_
    refine r_goto (tgt := 55) dX0_bars_51 (by decide) ?_
    refine r_iret dX0_bars_55 rfl (by decide) ?_
    exact ⟨_, rfl, by rw [f_X0_bars, if_pos c1], rfl⟩
  · refine r_aload_n dX0_bars_18 rfl ?_
    refine x_get (c := 1) hE (fun _ _ => rfl) dX0_bars_19 fl_RX0_40 (by first | with_reducible assumption | exact h0.lab hp1) rfl ?_
    refine x_getI (c := 8) (x := (σ.1 8 (S 1 p1) 1)) hE (fun _ _ => rfl) (fun _ => rfl) dX0_bars_22 fl_RX0_44 (by first | with_reducible assumption | exact h0.lab hp1) rfl ?_
    refine r_aload_n dX0_bars_25 rfl ?_
    refine x_get (c := 0) hE (fun _ _ => rfl) dX0_bars_26 fl_RX0_9 ho rfl ?_
    refine r_iload_n dX0_bars_29 rfl ?_
    refine x_ialdV (c := 20) (i := o) (N := 12) (x := (σ.2 20 o (Int32.toNatClampNeg (f_X0_place p2 (f_X9_partOf (σ.1 1 p1 3) p2))))) hE (fun _ _ => rfl) dX0_bars_30 ho (by exact place_in (by with_reducible assumption)) rfl ?_
    refine r_icmp_lt (tgt := 50) dX0_bars_31 (by decide) (fun c2 => ?_) (fun c2 => ?_)
    · refine r_iconst (v := (1 : Int32)) dX0_bars_50 (by decide) ?_
      refine r_goto (tgt := 55) dX0_bars_51 (by decide) ?_
      refine r_iret dX0_bars_55 rfl (by decide) ?_
      exact ⟨_, rfl, by rw [f_X0_bars, if_neg c1, if_pos c2], rfl⟩
    · refine r_aload_n dX0_bars_34 rfl ?_
      refine x_get (c := 1) hE (fun _ _ => rfl) dX0_bars_35 fl_RX0_40 (by first | with_reducible assumption | exact h0.lab hp1) rfl ?_
      refine x_getI (c := 8) (x := (σ.1 8 (S 1 p1) 1)) hE (fun _ _ => rfl) (fun _ => rfl) dX0_bars_38 fl_RX0_44 (by first | with_reducible assumption | exact h0.lab hp1) rfl ?_
      refine r_aload_n dX0_bars_41 rfl ?_
      refine x_get (c := 0) hE (fun _ _ => rfl) dX0_bars_42 fl_RX0_15 ho rfl ?_
      refine r_iload_n dX0_bars_45 rfl ?_
      refine x_ialdV (c := 21) (i := o) (N := 12) (x := (σ.2 21 o (Int32.toNatClampNeg (f_X0_place p2 (f_X9_partOf (σ.1 1 p1 3) p2))))) hE (fun _ _ => rfl) dX0_bars_46 ho (by exact place_in (by with_reducible assumption)) rfl ?_
      refine r_icmp_le (tgt := 54) dX0_bars_47 (by decide) (fun c3 => ?_) (fun c3 => ?_)
      · refine r_iconst (v := (0 : Int32)) dX0_bars_54 (by decide) ?_
        refine r_iret dX0_bars_55 rfl (by decide) ?_
        exact ⟨_, rfl, by rw [f_X0_bars, if_neg c1, if_neg c2, if_pos c3], rfl⟩
      · refine r_iconst (v := (1 : Int32)) dX0_bars_50 (by decide) ?_
        refine r_goto (tgt := 55) dX0_bars_51 (by decide) ?_
        refine r_iret dX0_bars_55 rfl (by decide) ?_
        exact ⟨_, rfl, by rw [f_X0_bars, if_neg c1, if_neg c2, if_neg c3], rfl⟩
theorem bz_X0_bars (S : XSh) (σ : XSt) (o : Nat) (p1 : Nat) (p2 : Int32) : narrow .boolean (.int (f_X0_bars S σ o p1 p2)) = .int (f_X0_bars S σ o p1 p2) := by
  unfold f_X0_bars
  (repeat' split) <;> first | rfl | decide | skip

def f_X0_write (S : XSh) (σ : XSt) (o : Nat) (p1 : Int32) (p2 : Int32) (p3 : Int32) (p4 : Int32) : XSt := (if (f_X0_place p1 p2) = (-1 : Int32) then σ else (xa (xa σ 20 o (Int32.toNatClampNeg (f_X0_place p1 p2)) p3) 21 o (Int32.toNatClampNeg (f_X0_place p1 p2)) p4))
set_option maxRecDepth 100000 in
set_option maxHeartbeats 1000000 in
theorem ok_X0_write {g : GC} {B : hH} {am : XAd} {S : XSh} {d : Nat} (hE : XOk am S) (hX : GX g) (hd : 1 ≤ d) (σ : XSt) (o : Nat) (p1 : Int32) (p2 : Int32) (p3 : Int32) (p4 : Int32) (ho : o < lim S 0) : XC g B am S d yX0_write cX0_write 6 none [.ref (am 0 o), .int p1, .int p2, .int p3, .int p4] (fun v σ' => v = none ∧ σ' = (f_X0_write S σ o p1 p2 p3 p4)) σ := by
  refine AM.of2 (own := RX0) (nm := "write") (L0 := [(0, .ref (am 0 o)), (1, .int p1), (2, .int p2), (3, .int p3), (4, .int p4)]) (by decide) rfl rfl (Nat.le_of_ble_eq_true rfl) rfl ?_
  refine r_iload_n dX0_write_0 rfl ?_
  refine r_iload_n dX0_write_1 rfl ?_
  refine r_callS0 dX0_write_2 mf_X0_place ml_RX0_27 (ok_X0_place (d := d - 1) (by omega) _ _) rfl rfl (Nat.le_of_ble_eq_true rfl) (by omega) ?_
  refine r_istore dX0_write_5 (by decide) ?_
  refine r_iload dX0_write_7 rfl ?_
  refine r_iconst (v := (-1 : Int32)) dX0_write_9 (by decide) ?_
  refine r_icmp_eq (tgt := 30) dX0_write_10 (by decide) (fun c1 => ?_) (fun c1 => ?_)
  · refine r_vret dX0_write_30 rfl ?_
    exact ⟨_, rfl, by rfl, by rw [f_X0_write, if_pos c1]⟩
  · refine r_aload_n dX0_write_13 rfl ?_
    refine x_get (c := 0) hE (fun _ _ => rfl) dX0_write_14 fl_RX0_9 ho rfl ?_
    refine r_iload dX0_write_17 rfl ?_
    refine r_iload_n dX0_write_19 rfl ?_
    refine x_iast (c := 20) (i := o) (N := 12) hE (fun _ _ => rfl) dX0_write_20 ho (by exact place_in (by with_reducible assumption)) ?_
    refine r_aload_n dX0_write_21 rfl ?_
    refine x_get (c := 0) hE (fun _ _ => rfl) dX0_write_22 fl_RX0_15 ho rfl ?_
    refine r_iload dX0_write_25 rfl ?_
    refine r_iload dX0_write_27 rfl ?_
    refine x_iast (c := 21) (i := o) (N := 12) hE (fun _ _ => rfl) dX0_write_29 ho (by exact place_in (by with_reducible assumption)) ?_
    refine r_vret dX0_write_30 rfl ?_
    exact ⟨_, rfl, by rfl, by rw [f_X0_write, if_neg c1]⟩

def f_X0_become (S : XSh) (σ : XSt) (o : Nat) (p1 : Nat) : XSt := (xb (xb (xb σ 20 o (va_cpy (σ.2 20 p1) (σ.2 20 o) (Int32.toNatClampNeg (0 : Int32)) (Int32.toNatClampNeg (0 : Int32)) (Int32.toNatClampNeg (12 : Int32)))) 21 o (va_cpy ((xb σ 20 o (va_cpy (σ.2 20 p1) (σ.2 20 o) (Int32.toNatClampNeg (0 : Int32)) (Int32.toNatClampNeg (0 : Int32)) (Int32.toNatClampNeg (12 : Int32)))).2 21 p1) ((xb σ 20 o (va_cpy (σ.2 20 p1) (σ.2 20 o) (Int32.toNatClampNeg (0 : Int32)) (Int32.toNatClampNeg (0 : Int32)) (Int32.toNatClampNeg (12 : Int32)))).2 21 o) (Int32.toNatClampNeg (0 : Int32)) (Int32.toNatClampNeg (0 : Int32)) (Int32.toNatClampNeg (12 : Int32)))) 22 o (va_cpy ((xb (xb σ 20 o (va_cpy (σ.2 20 p1) (σ.2 20 o) (Int32.toNatClampNeg (0 : Int32)) (Int32.toNatClampNeg (0 : Int32)) (Int32.toNatClampNeg (12 : Int32)))) 21 o (va_cpy ((xb σ 20 o (va_cpy (σ.2 20 p1) (σ.2 20 o) (Int32.toNatClampNeg (0 : Int32)) (Int32.toNatClampNeg (0 : Int32)) (Int32.toNatClampNeg (12 : Int32)))).2 21 p1) ((xb σ 20 o (va_cpy (σ.2 20 p1) (σ.2 20 o) (Int32.toNatClampNeg (0 : Int32)) (Int32.toNatClampNeg (0 : Int32)) (Int32.toNatClampNeg (12 : Int32)))).2 21 o) (Int32.toNatClampNeg (0 : Int32)) (Int32.toNatClampNeg (0 : Int32)) (Int32.toNatClampNeg (12 : Int32)))).2 22 p1) ((xb (xb σ 20 o (va_cpy (σ.2 20 p1) (σ.2 20 o) (Int32.toNatClampNeg (0 : Int32)) (Int32.toNatClampNeg (0 : Int32)) (Int32.toNatClampNeg (12 : Int32)))) 21 o (va_cpy ((xb σ 20 o (va_cpy (σ.2 20 p1) (σ.2 20 o) (Int32.toNatClampNeg (0 : Int32)) (Int32.toNatClampNeg (0 : Int32)) (Int32.toNatClampNeg (12 : Int32)))).2 21 p1) ((xb σ 20 o (va_cpy (σ.2 20 p1) (σ.2 20 o) (Int32.toNatClampNeg (0 : Int32)) (Int32.toNatClampNeg (0 : Int32)) (Int32.toNatClampNeg (12 : Int32)))).2 21 o) (Int32.toNatClampNeg (0 : Int32)) (Int32.toNatClampNeg (0 : Int32)) (Int32.toNatClampNeg (12 : Int32)))).2 22 o) (Int32.toNatClampNeg (0 : Int32)) (Int32.toNatClampNeg (0 : Int32)) (Int32.toNatClampNeg (3 : Int32))))
set_option maxRecDepth 100000 in
set_option maxHeartbeats 1000000 in
theorem ok_X0_become {g : GC} {B : hH} {am : XAd} {S : XSh} {d : Nat} (hE : XOk am S) (hX : GX g) (hd : 1 ≤ d) (σ : XSt) (o : Nat) (p1 : Nat) (ho : o < lim S 0) (hp1 : p1 < lim S 0) : XC g B am S d yX0_become cX0_become 2 none [.ref (am 0 o), .ref (am 0 p1)] (fun v σ' => v = none ∧ σ' = (f_X0_become S σ o p1)) σ := by
  refine AM.of2 (own := RX0) (nm := "become") (L0 := [(0, .ref (am 0 o)), (1, .ref (am 0 p1))]) (by decide) rfl rfl (Nat.le_of_ble_eq_true rfl) rfl ?_
  refine r_aload_n dX0_become_0 rfl ?_
  refine x_get (c := 0) hE (fun _ _ => rfl) dX0_become_1 fl_RX0_9 (by first | with_reducible assumption | exact hp1) rfl ?_
  refine r_iconst (v := (0 : Int32)) dX0_become_4 (by decide) ?_
  refine r_aload_n dX0_become_5 rfl ?_
  refine x_get (c := 0) hE (fun _ _ => rfl) dX0_become_6 fl_RX0_9 ho rfl ?_
  refine r_iconst (v := (0 : Int32)) dX0_become_9 (by decide) ?_
  refine r_bipush (v := (12 : Int32)) dX0_become_10 (by decide) ?_
  refine x_copy (N := 12) hE (fun _ _ => rfl) (fun _ _ => rfl) dX0_become_12 ml0_RX0_49 cpN cpS cpI (by first | with_reducible assumption | exact hp1) ho (by decide) (by decide) (by decide) (Nat.le_of_ble_eq_true rfl) (Nat.le_of_ble_eq_true rfl) (Nat.le_of_ble_eq_true rfl) (by omega) ?_
  refine r_aload_n dX0_become_15 rfl ?_
  refine x_get (c := 0) hE (fun _ _ => rfl) dX0_become_16 fl_RX0_15 (by first | with_reducible assumption | exact hp1) rfl ?_
  refine r_iconst (v := (0 : Int32)) dX0_become_19 (by decide) ?_
  refine r_aload_n dX0_become_20 rfl ?_
  refine x_get (c := 0) hE (fun _ _ => rfl) dX0_become_21 fl_RX0_15 ho rfl ?_
  refine r_iconst (v := (0 : Int32)) dX0_become_24 (by decide) ?_
  refine r_bipush (v := (12 : Int32)) dX0_become_25 (by decide) ?_
  refine x_copy (N := 12) hE (fun _ _ => rfl) (fun _ _ => rfl) dX0_become_27 ml0_RX0_49 cpN cpS cpI (by first | with_reducible assumption | exact hp1) ho (by decide) (by decide) (by decide) (Nat.le_of_ble_eq_true rfl) (Nat.le_of_ble_eq_true rfl) (Nat.le_of_ble_eq_true rfl) (by omega) ?_
  refine r_aload_n dX0_become_30 rfl ?_
  refine x_get (c := 0) hE (fun _ _ => rfl) dX0_become_31 fl_RX0_18 (by first | with_reducible assumption | exact hp1) rfl ?_
  refine r_iconst (v := (0 : Int32)) dX0_become_34 (by decide) ?_
  refine r_aload_n dX0_become_35 rfl ?_
  refine x_get (c := 0) hE (fun _ _ => rfl) dX0_become_36 fl_RX0_18 ho rfl ?_
  refine r_iconst (v := (0 : Int32)) dX0_become_39 (by decide) ?_
  refine r_iconst (v := (3 : Int32)) dX0_become_40 (by decide) ?_
  refine x_copy (N := 3) hE (fun _ _ => rfl) (fun _ _ => rfl) dX0_become_41 ml0_RX0_49 cpN cpS cpI (by first | with_reducible assumption | exact hp1) ho (by decide) (by decide) (by decide) (Nat.le_of_ble_eq_true rfl) (Nat.le_of_ble_eq_true rfl) (Nat.le_of_ble_eq_true rfl) (by omega) ?_
  refine r_vret dX0_become_44 rfl ?_
  exact ⟨_, rfl, by rfl, by rw [f_X0_become]⟩

def f_X5_valueOf_L63 : Nat → XSh → XSt → Nat → Int32 → Int32 → Int32 → Int32 → Int32 → Int32 × XSt
  | 0, _, σ, _, _, _, _, _, _ => (0, σ)
  | n + 1, S, σ, l0, l1, l4, l5, l6, l7 => (if l7 < 0 then (if l6 ≤ 0 then ((0 : Int32), σ) else ((σ.2 16 0 (Int32.toNatClampNeg (l6 - (1 : Int32)))), σ)) else (if l5 ≤ l7 then (if l6 ≤ 0 then ((0 : Int32), σ) else ((σ.2 16 0 (Int32.toNatClampNeg (l6 - (1 : Int32)))), σ)) else (if (nI (S 5 l0)) ≤ l7 then (if l6 ≤ 0 then ((0 : Int32), σ) else ((σ.2 16 0 (Int32.toNatClampNeg (l6 - (1 : Int32)))), σ)) else (if (σ.2 32 l0 (Int32.toNatClampNeg l7)) < (-(6 : Int32)) then (if (σ.2 32 l0 (Int32.toNatClampNeg l7)) = (-100 : Int32) then (if l6 < (1 : Int32) then (f_X5_valueOf_L63 n S σ l0 l1 l4 l5 l6 (l7 + (1 : Int32))) else (if (σ.2 32 l0 (Int32.toNatClampNeg l7)) = (-100 : Int32) then (f_X5_valueOf_L63 n S (xa σ 16 0 (Int32.toNatClampNeg (l6 - (1 : Int32))) (-(σ.2 16 0 (Int32.toNatClampNeg (l6 - (1 : Int32)))))) l0 l1 l4 l5 l6 (l7 + (1 : Int32))) else (if (σ.2 16 0 (Int32.toNatClampNeg (l6 - (1 : Int32)))) = 0 then (f_X5_valueOf_L63 n S (xa σ 16 0 (Int32.toNatClampNeg (l6 - (1 : Int32))) (f_X5_truth (1 : Int32))) l0 l1 l4 l5 l6 (l7 + (1 : Int32))) else (f_X5_valueOf_L63 n S (xa σ 16 0 (Int32.toNatClampNeg (l6 - (1 : Int32))) (f_X5_truth (0 : Int32))) l0 l1 l4 l5 l6 (l7 + (1 : Int32)))))) else (if (σ.2 32 l0 (Int32.toNatClampNeg l7)) = (-11 : Int32) then (if l6 < (1 : Int32) then (f_X5_valueOf_L63 n S σ l0 l1 l4 l5 l6 (l7 + (1 : Int32))) else (if (σ.2 32 l0 (Int32.toNatClampNeg l7)) = (-100 : Int32) then (f_X5_valueOf_L63 n S (xa σ 16 0 (Int32.toNatClampNeg (l6 - (1 : Int32))) (-(σ.2 16 0 (Int32.toNatClampNeg (l6 - (1 : Int32)))))) l0 l1 l4 l5 l6 (l7 + (1 : Int32))) else (if (σ.2 16 0 (Int32.toNatClampNeg (l6 - (1 : Int32)))) = 0 then (f_X5_valueOf_L63 n S (xa σ 16 0 (Int32.toNatClampNeg (l6 - (1 : Int32))) (f_X5_truth (1 : Int32))) l0 l1 l4 l5 l6 (l7 + (1 : Int32))) else (f_X5_valueOf_L63 n S (xa σ 16 0 (Int32.toNatClampNeg (l6 - (1 : Int32))) (f_X5_truth (0 : Int32))) l0 l1 l4 l5 l6 (l7 + (1 : Int32)))))) else (if l6 < (2 : Int32) then (f_X5_valueOf_L63 n S σ l0 l1 l4 l5 l6 (l7 + (1 : Int32))) else (f_X5_valueOf_L63 n S (xa σ 16 0 (Int32.toNatClampNeg ((l6 + (-1 : Int32)) - (1 : Int32))) (f_X5_joined (-(σ.2 32 l0 (Int32.toNatClampNeg l7))) (σ.2 16 0 (Int32.toNatClampNeg ((l6 + (-1 : Int32)) - (1 : Int32)))) (σ.2 16 0 (Int32.toNatClampNeg (l6 + (-1 : Int32)))))) l0 l1 l4 l5 (l6 + (-1 : Int32)) (l7 + (1 : Int32)))))) else (if (160 : Int32) ≤ l6 then (f_X5_valueOf_L63 n S σ l0 l1 l4 l5 l6 (l7 + (1 : Int32))) else (if (σ.2 32 l0 (Int32.toNatClampNeg l7)) < 0 then (f_X5_valueOf_L63 n S (xa σ 16 0 (Int32.toNatClampNeg l6) (σ.2 15 0 (Int32.toNatClampNeg ((-1 : Int32) - (σ.2 32 l0 (Int32.toNatClampNeg l7)))))) l0 l1 l4 l5 (l6 + (1 : Int32)) (l7 + (1 : Int32))) else (f_X5_valueOf_L63 n S (xa σ 16 0 (Int32.toNatClampNeg l6) (σ.2 32 l0 (Int32.toNatClampNeg l7))) l0 l1 l4 l5 (l6 + (1 : Int32)) (l7 + (1 : Int32)))))))))
set_option maxRecDepth 100000 in
set_option maxHeartbeats 1000000 in
theorem lp_X5_valueOf_63 {g : GC} {B : hH} {am : XAd} {S : XSh} {d : Nat} {K : Option Value → XSt → Prop} (hE : XOk am S) (hX : GX g) (hd : 2 ≤ d) : ∀ (fuel : Nat) (σ : XSt) (l0 : Nat) (l1 : Int32) (l4 : Int32) (l5 : Int32) (l6 : Int32) (l7 : Int32), l0 < lim S 5 → S 5 l0 ≤ 160 → Ct l6 160 → 161 - l7.toNatClampNeg < fuel → K (some (.int (f_X5_valueOf_L63 fuel S σ l0 l1 l4 l5 l6 l7).1)) (f_X5_valueOf_L63 fuel S σ l0 l1 l4 l5 l6 l7).2 → XW g B am S RX5 cX5_valueOf 10 (some FieldType.int) "valueOf" d K 63 [(0, .ref (am 5 l0)), (1, .int l1), (2, .ref (am 15 0)), (3, .ref (am 16 0)), (4, .int l4), (5, .int l5), (6, .int l6), (7, .int l7)] [] σ := by
  intro fuel
  induction fuel with
  | zero => intro σ l0 l1 l4 l5 l6 l7 i0 i1 i2 hm hK; exact absurd hm (Nat.not_lt_zero _)
  | succ n ih =>
    intro σ l0 l1 l4 l5 l6 l7 i0 i1 i2 hm hK
    refine r_iload dX5_valueOf_63 rfl ?_
    refine r_if_lt (tgt := 235) dX5_valueOf_65 (by decide) (fun c9 => ?_) (fun c9 => ?_)
    · refine r_iload dX5_valueOf_235 rfl ?_
      refine r_if_le (tgt := 249) dX5_valueOf_237 (by decide) (fun c10 => ?_) (fun c10 => ?_)
      · refine r_iconst (v := (0 : Int32)) dX5_valueOf_249 (by decide) ?_
        refine r_iret dX5_valueOf_250 rfl rfl ?_
        exact ⟨_, rfl, by rw [f_X5_valueOf_L63, if_pos c9, if_pos c10] at hK; exact hK⟩
      · refine r_aload_n dX5_valueOf_240 rfl ?_
        refine r_iload dX5_valueOf_241 rfl ?_
        refine r_iconst (v := (1 : Int32)) dX5_valueOf_243 (by decide) ?_
        refine r_isub dX5_valueOf_244 ?_
        refine x_ialdV (c := 16) (i := 0) (N := 160) (x := (σ.2 16 0 (Int32.toNatClampNeg (l6 - (1 : Int32))))) hE (fun _ _ => rfl) dX5_valueOf_245 (Nat.le_of_ble_eq_true rfl) (by exact Ct.p1' (by decide) i2 (by with_reducible assumption)) rfl ?_
        refine r_goto (tgt := 250) dX5_valueOf_246 (by decide) ?_
        refine r_iret dX5_valueOf_250 rfl rfl ?_
        exact ⟨_, rfl, by rw [f_X5_valueOf_L63, if_pos c9, if_neg c10] at hK; exact hK⟩
    · refine r_iload dX5_valueOf_68 rfl ?_
      refine r_iload dX5_valueOf_70 rfl ?_
      refine r_icmp_ge (tgt := 235) dX5_valueOf_72 (by decide) (fun c11 => ?_) (fun c11 => ?_)
      · refine r_iload dX5_valueOf_235 rfl ?_
        refine r_if_le (tgt := 249) dX5_valueOf_237 (by decide) (fun c12 => ?_) (fun c12 => ?_)
        · refine r_iconst (v := (0 : Int32)) dX5_valueOf_249 (by decide) ?_
          refine r_iret dX5_valueOf_250 rfl rfl ?_
          exact ⟨_, rfl, by rw [f_X5_valueOf_L63, if_neg c9, if_pos c11, if_pos c12] at hK; exact hK⟩
        · refine r_aload_n dX5_valueOf_240 rfl ?_
          refine r_iload dX5_valueOf_241 rfl ?_
          refine r_iconst (v := (1 : Int32)) dX5_valueOf_243 (by decide) ?_
          refine r_isub dX5_valueOf_244 ?_
          refine x_ialdV (c := 16) (i := 0) (N := 160) (x := (σ.2 16 0 (Int32.toNatClampNeg (l6 - (1 : Int32))))) hE (fun _ _ => rfl) dX5_valueOf_245 (Nat.le_of_ble_eq_true rfl) (by exact Ct.p1' (by decide) i2 (by with_reducible assumption)) rfl ?_
          refine r_goto (tgt := 250) dX5_valueOf_246 (by decide) ?_
          refine r_iret dX5_valueOf_250 rfl rfl ?_
          exact ⟨_, rfl, by rw [f_X5_valueOf_L63, if_neg c9, if_pos c11, if_neg c12] at hK; exact hK⟩
      · refine r_iload dX5_valueOf_75 rfl ?_
        refine r_aload_n dX5_valueOf_77 rfl ?_
        refine x_get (c := 5) hE (fun _ _ => rfl) dX5_valueOf_78 fl_RX5_9 (by first | with_reducible assumption | exact i0) rfl ?_
        refine x_alen (t0 := 0) (x := (nI (S 5 l0))) hE rfl rfl dX5_valueOf_81 (by first | with_reducible assumption | exact i0) rfl ?_
        refine r_icmp_ge (tgt := 235) dX5_valueOf_82 (by decide) (fun c13 => ?_) (fun c13 => ?_)
        · refine r_iload dX5_valueOf_235 rfl ?_
          refine r_if_le (tgt := 249) dX5_valueOf_237 (by decide) (fun c14 => ?_) (fun c14 => ?_)
          · refine r_iconst (v := (0 : Int32)) dX5_valueOf_249 (by decide) ?_
            refine r_iret dX5_valueOf_250 rfl rfl ?_
            exact ⟨_, rfl, by rw [f_X5_valueOf_L63, if_neg c9, if_neg c11, if_pos c13, if_pos c14] at hK; exact hK⟩
          · refine r_aload_n dX5_valueOf_240 rfl ?_
            refine r_iload dX5_valueOf_241 rfl ?_
            refine r_iconst (v := (1 : Int32)) dX5_valueOf_243 (by decide) ?_
            refine r_isub dX5_valueOf_244 ?_
            refine x_ialdV (c := 16) (i := 0) (N := 160) (x := (σ.2 16 0 (Int32.toNatClampNeg (l6 - (1 : Int32))))) hE (fun _ _ => rfl) dX5_valueOf_245 (Nat.le_of_ble_eq_true rfl) (by exact Ct.p1' (by decide) i2 (by with_reducible assumption)) rfl ?_
            refine r_goto (tgt := 250) dX5_valueOf_246 (by decide) ?_
            refine r_iret dX5_valueOf_250 rfl rfl ?_
            exact ⟨_, rfl, by rw [f_X5_valueOf_L63, if_neg c9, if_neg c11, if_pos c13, if_neg c14] at hK; exact hK⟩
        · refine r_aload_n dX5_valueOf_85 rfl ?_
          refine x_get (c := 5) hE (fun _ _ => rfl) dX5_valueOf_86 fl_RX5_9 (by first | with_reducible assumption | exact i0) rfl ?_
          refine r_iload dX5_valueOf_89 rfl ?_
          refine x_ialdV (c := 32) (i := l0) (N := S 5 l0) (x := (σ.2 32 l0 (Int32.toNatClampNeg l7))) hE (fun _ _ => rfl) dX5_valueOf_91 (by first | with_reducible assumption | exact i0) (by exact (cd_in (l := l7) i1 (by with_reducible assumption) (by with_reducible assumption)).1) rfl ?_
          refine r_istore dX5_valueOf_92 (by decide) ?_
          refine r_iload dX5_valueOf_94 rfl ?_
          refine r_aload_n dX5_valueOf_96 rfl ?_
          refine x_alen (t0 := 0) (x := (6 : Int32)) hE rfl rfl dX5_valueOf_97 (Nat.le_of_ble_eq_true rfl) rfl ?_
          refine r_ineg dX5_valueOf_98 ?_
          refine r_icmp_lt (tgt := 135) dX5_valueOf_99 (by decide) (fun c15 => ?_) (fun c15 => ?_)
          · refine r_iload dX5_valueOf_135 rfl ?_
            refine r_bipush (v := (-100 : Int32)) dX5_valueOf_137 (by decide) ?_
            refine r_icmp_eq (tgt := 149) dX5_valueOf_139 (by decide) (fun c16 => ?_) (fun c16 => ?_)
            · refine r_iload dX5_valueOf_149 rfl ?_
              refine r_iconst (v := (1 : Int32)) dX5_valueOf_151 (by decide) ?_
              refine r_icmp_lt (tgt := 229) dX5_valueOf_152 (by decide) (fun c17 => ?_) (fun c17 => ?_)
              · refine r_iinc2 (w := (1 : Int32)) dX5_valueOf_229 rfl (by decide) (by decide) ?_
                refine r_goto (tgt := 63) dX5_valueOf_232 (by decide) ?_
                refine r_loc (L' := [(0, .ref (am 5 l0)), (1, .int l1), (2, .ref (am 15 0)), (3, .ref (am 16 0)), (4, .int l4), (5, .int l5), (6, .int l6), (7, .int (l7 + (1 : Int32)))]) [2, 3, 4, 5, 6, 7, 8, 0] rfl ?_
                exact ih σ  l0 l1 l4 l5 l6 (l7 + (1 : Int32)) (by exact i0) (by exact i1) (by first | with_reducible exact i2 | with_reducible exact (Ct.up (by decide) ct160 i2 (by with_reducible assumption)).2.1 | with_reducible exact (Ct.p2 (by decide) i2 (by with_reducible assumption)).2.2) (by have u := (cd_in (l := l7) i1 (by with_reducible assumption) (by with_reducible assumption)).2; omega) (by rw [f_X5_valueOf_L63, if_neg c9, if_neg c11, if_neg c13, if_pos c15, if_pos c16, if_pos c17] at hK; exact hK)
              · refine r_aload_n dX5_valueOf_155 rfl ?_
                refine r_iload dX5_valueOf_156 rfl ?_
                refine r_iconst (v := (1 : Int32)) dX5_valueOf_158 (by decide) ?_
                refine r_isub dX5_valueOf_159 ?_
                refine x_ialdV (c := 16) (i := 0) (N := 160) (x := (σ.2 16 0 (Int32.toNatClampNeg (l6 - (1 : Int32))))) hE (fun _ _ => rfl) dX5_valueOf_160 (Nat.le_of_ble_eq_true rfl) (by exact Ct.p1 (by decide) i2 (by with_reducible assumption)) rfl ?_
                refine r_istore dX5_valueOf_161 (by decide) ?_
                refine r_aload_n dX5_valueOf_163 rfl ?_
                refine r_iload dX5_valueOf_164 rfl ?_
                refine r_iconst (v := (1 : Int32)) dX5_valueOf_166 (by decide) ?_
                refine r_isub dX5_valueOf_167 ?_
                refine r_iload dX5_valueOf_168 rfl ?_
                refine r_bipush (v := (-100 : Int32)) dX5_valueOf_170 (by decide) ?_
                refine r_icmp_ne (tgt := 181) dX5_valueOf_172 (by decide) (fun c18 => ?_) (fun c18 => ?_)
                · refine r_iload dX5_valueOf_181 rfl ?_
                  refine r_if_ne (tgt := 190) dX5_valueOf_183 (by decide) (fun c19 => ?_) (fun c19 => ?_)
                  · refine r_iconst (v := (0 : Int32)) dX5_valueOf_190 (by decide) ?_
                    refine r_callS0 dX5_valueOf_191 mf_X5_truth ml_RX5_24 (ok_X5_truth (d := d - 1) (by omega) _) rfl rfl (Nat.le_of_ble_eq_true rfl) (by omega) ?_
                    refine x_iast (c := 16) (i := 0) (N := 160) hE (fun _ _ => rfl) dX5_valueOf_194 (Nat.le_of_ble_eq_true rfl) (by exact Ct.p1 (by decide) i2 (by with_reducible assumption)) ?_
                    refine r_goto (tgt := 229) dX5_valueOf_195 (by decide) ?_
                    refine r_iinc2 (w := (1 : Int32)) dX5_valueOf_229 rfl (by decide) (by decide) ?_
                    refine r_goto (tgt := 63) dX5_valueOf_232 (by decide) ?_
                    refine r_loc (L' := [(0, .ref (am 5 l0)), (1, .int l1), (2, .ref (am 15 0)), (3, .ref (am 16 0)), (4, .int l4), (5, .int l5), (6, .int l6), (7, .int (l7 + (1 : Int32)))]) [3, 4, 5, 6, 7, 8, 9, 0] rfl ?_
                    exact ih (xa σ 16 0 (Int32.toNatClampNeg (l6 - (1 : Int32))) (f_X5_truth (0 : Int32)))  l0 l1 l4 l5 l6 (l7 + (1 : Int32)) (by exact i0) (by exact i1) (by first | with_reducible exact i2 | with_reducible exact (Ct.up (by decide) ct160 i2 (by with_reducible assumption)).2.1 | with_reducible exact (Ct.p2 (by decide) i2 (by with_reducible assumption)).2.2) (by have u := (cd_in (l := l7) i1 (by with_reducible assumption) (by with_reducible assumption)).2; omega) (by rw [f_X5_valueOf_L63, if_neg c9, if_neg c11, if_neg c13, if_pos c15, if_pos c16, if_neg c17, if_neg c18, if_neg c19] at hK; exact hK)
                  · refine r_iconst (v := (1 : Int32)) dX5_valueOf_186 (by decide) ?_
                    refine r_goto (tgt := 191) dX5_valueOf_187 (by decide) ?_
                    refine r_callS0 dX5_valueOf_191 mf_X5_truth ml_RX5_24 (ok_X5_truth (d := d - 1) (by omega) _) rfl rfl (Nat.le_of_ble_eq_true rfl) (by omega) ?_
                    refine x_iast (c := 16) (i := 0) (N := 160) hE (fun _ _ => rfl) dX5_valueOf_194 (Nat.le_of_ble_eq_true rfl) (by exact Ct.p1 (by decide) i2 (by with_reducible assumption)) ?_
                    refine r_goto (tgt := 229) dX5_valueOf_195 (by decide) ?_
                    refine r_iinc2 (w := (1 : Int32)) dX5_valueOf_229 rfl (by decide) (by decide) ?_
                    refine r_goto (tgt := 63) dX5_valueOf_232 (by decide) ?_
                    refine r_loc (L' := [(0, .ref (am 5 l0)), (1, .int l1), (2, .ref (am 15 0)), (3, .ref (am 16 0)), (4, .int l4), (5, .int l5), (6, .int l6), (7, .int (l7 + (1 : Int32)))]) [3, 4, 5, 6, 7, 8, 9, 0] rfl ?_
                    exact ih (xa σ 16 0 (Int32.toNatClampNeg (l6 - (1 : Int32))) (f_X5_truth (1 : Int32)))  l0 l1 l4 l5 l6 (l7 + (1 : Int32)) (by exact i0) (by exact i1) (by first | with_reducible exact i2 | with_reducible exact (Ct.up (by decide) ct160 i2 (by with_reducible assumption)).2.1 | with_reducible exact (Ct.p2 (by decide) i2 (by with_reducible assumption)).2.2) (by have u := (cd_in (l := l7) i1 (by with_reducible assumption) (by with_reducible assumption)).2; omega) (by rw [f_X5_valueOf_L63, if_neg c9, if_neg c11, if_neg c13, if_pos c15, if_pos c16, if_neg c17, if_neg c18, if_pos c19] at hK; exact hK)
                · refine r_iload dX5_valueOf_175 rfl ?_
                  refine r_ineg dX5_valueOf_177 ?_
                  refine r_goto (tgt := 194) dX5_valueOf_178 (by decide) ?_
                  refine x_iast (c := 16) (i := 0) (N := 160) hE (fun _ _ => rfl) dX5_valueOf_194 (Nat.le_of_ble_eq_true rfl) (by exact Ct.p1 (by decide) i2 (by with_reducible assumption)) ?_
                  refine r_goto (tgt := 229) dX5_valueOf_195 (by decide) ?_
                  refine r_iinc2 (w := (1 : Int32)) dX5_valueOf_229 rfl (by decide) (by decide) ?_
                  refine r_goto (tgt := 63) dX5_valueOf_232 (by decide) ?_
                  refine r_loc (L' := [(0, .ref (am 5 l0)), (1, .int l1), (2, .ref (am 15 0)), (3, .ref (am 16 0)), (4, .int l4), (5, .int l5), (6, .int l6), (7, .int (l7 + (1 : Int32)))]) [3, 4, 5, 6, 7, 8, 9, 0] rfl ?_
                  exact ih (xa σ 16 0 (Int32.toNatClampNeg (l6 - (1 : Int32))) (-(σ.2 16 0 (Int32.toNatClampNeg (l6 - (1 : Int32))))))  l0 l1 l4 l5 l6 (l7 + (1 : Int32)) (by exact i0) (by exact i1) (by first | with_reducible exact i2 | with_reducible exact (Ct.up (by decide) ct160 i2 (by with_reducible assumption)).2.1 | with_reducible exact (Ct.p2 (by decide) i2 (by with_reducible assumption)).2.2) (by have u := (cd_in (l := l7) i1 (by with_reducible assumption) (by with_reducible assumption)).2; omega) (by rw [f_X5_valueOf_L63, if_neg c9, if_neg c11, if_neg c13, if_pos c15, if_pos c16, if_neg c17, if_pos c18] at hK; exact hK)
            · refine r_iload dX5_valueOf_142 rfl ?_
              refine r_bipush (v := (-11 : Int32)) dX5_valueOf_144 (by decide) ?_
              refine r_icmp_ne (tgt := 198) dX5_valueOf_146 (by decide) (fun c20 => ?_) (fun c20 => ?_)
              · refine r_iload dX5_valueOf_198 rfl ?_
                refine r_iconst (v := (2 : Int32)) dX5_valueOf_200 (by decide) ?_
                refine r_icmp_lt (tgt := 229) dX5_valueOf_201 (by decide) (fun c21 => ?_) (fun c21 => ?_)
                · refine r_iinc2 (w := (1 : Int32)) dX5_valueOf_229 rfl (by decide) (by decide) ?_
                  refine r_goto (tgt := 63) dX5_valueOf_232 (by decide) ?_
                  refine r_loc (L' := [(0, .ref (am 5 l0)), (1, .int l1), (2, .ref (am 15 0)), (3, .ref (am 16 0)), (4, .int l4), (5, .int l5), (6, .int l6), (7, .int (l7 + (1 : Int32)))]) [2, 3, 4, 5, 6, 7, 8, 0] rfl ?_
                  exact ih σ  l0 l1 l4 l5 l6 (l7 + (1 : Int32)) (by exact i0) (by exact i1) (by first | with_reducible exact i2 | with_reducible exact (Ct.up (by decide) ct160 i2 (by with_reducible assumption)).2.1 | with_reducible exact (Ct.p2 (by decide) i2 (by with_reducible assumption)).2.2) (by have u := (cd_in (l := l7) i1 (by with_reducible assumption) (by with_reducible assumption)).2; omega) (by rw [f_X5_valueOf_L63, if_neg c9, if_neg c11, if_neg c13, if_pos c15, if_neg c16, if_neg c20, if_pos c21] at hK; exact hK)
                · refine r_iinc2 (w := (-1 : Int32)) dX5_valueOf_204 rfl (by decide) (by decide) ?_
                  refine r_aload_n dX5_valueOf_207 rfl ?_
                  refine r_iload dX5_valueOf_208 rfl ?_
                  refine r_iconst (v := (1 : Int32)) dX5_valueOf_210 (by decide) ?_
                  refine r_isub dX5_valueOf_211 ?_
                  refine r_iload dX5_valueOf_212 rfl ?_
                  refine r_ineg dX5_valueOf_214 ?_
                  refine r_aload_n dX5_valueOf_215 rfl ?_
                  refine r_iload dX5_valueOf_216 rfl ?_
                  refine r_iconst (v := (1 : Int32)) dX5_valueOf_218 (by decide) ?_
                  refine r_isub dX5_valueOf_219 ?_
                  refine x_ialdV (c := 16) (i := 0) (N := 160) (x := (σ.2 16 0 (Int32.toNatClampNeg ((l6 + (-1 : Int32)) - (1 : Int32))))) hE (fun _ _ => rfl) dX5_valueOf_220 (Nat.le_of_ble_eq_true rfl) (by exact (Ct.p2 (by decide) i2 (by with_reducible assumption)).2.1) rfl ?_
                  refine r_aload_n dX5_valueOf_221 rfl ?_
                  refine r_iload dX5_valueOf_222 rfl ?_
                  refine x_ialdV (c := 16) (i := 0) (N := 160) (x := (σ.2 16 0 (Int32.toNatClampNeg (l6 + (-1 : Int32))))) hE (fun _ _ => rfl) dX5_valueOf_224 (Nat.le_of_ble_eq_true rfl) (by exact (Ct.p2 (by decide) i2 (by with_reducible assumption)).1) rfl ?_
                  refine r_callS0 dX5_valueOf_225 mf_X5_joined ml_RX5_28 (ok_X5_joined (d := d - 1) (by omega) _ _ _) rfl rfl (Nat.le_of_ble_eq_true rfl) (by omega) ?_
                  refine x_iast (c := 16) (i := 0) (N := 160) hE (fun _ _ => rfl) dX5_valueOf_228 (Nat.le_of_ble_eq_true rfl) (by exact (Ct.p2 (by decide) i2 (by with_reducible assumption)).2.1) ?_
                  refine r_iinc2 (w := (1 : Int32)) dX5_valueOf_229 rfl (by decide) (by decide) ?_
                  refine r_goto (tgt := 63) dX5_valueOf_232 (by decide) ?_
                  refine r_loc (L' := [(0, .ref (am 5 l0)), (1, .int l1), (2, .ref (am 15 0)), (3, .ref (am 16 0)), (4, .int l4), (5, .int l5), (6, .int (l6 + (-1 : Int32))), (7, .int (l7 + (1 : Int32)))]) [3, 4, 5, 6, 7, 8, 1, 0] rfl ?_
                  exact ih (xa σ 16 0 (Int32.toNatClampNeg ((l6 + (-1 : Int32)) - (1 : Int32))) (f_X5_joined (-(σ.2 32 l0 (Int32.toNatClampNeg l7))) (σ.2 16 0 (Int32.toNatClampNeg ((l6 + (-1 : Int32)) - (1 : Int32)))) (σ.2 16 0 (Int32.toNatClampNeg (l6 + (-1 : Int32))))))  l0 l1 l4 l5 (l6 + (-1 : Int32)) (l7 + (1 : Int32)) (by exact i0) (by exact i1) (by first | with_reducible exact i2 | with_reducible exact (Ct.up (by decide) ct160 i2 (by with_reducible assumption)).2.1 | with_reducible exact (Ct.p2 (by decide) i2 (by with_reducible assumption)).2.2) (by have u := (cd_in (l := l7) i1 (by with_reducible assumption) (by with_reducible assumption)).2; omega) (by rw [f_X5_valueOf_L63, if_neg c9, if_neg c11, if_neg c13, if_pos c15, if_neg c16, if_neg c20, if_neg c21] at hK; exact hK)
              · refine r_iload dX5_valueOf_149 rfl ?_
                refine r_iconst (v := (1 : Int32)) dX5_valueOf_151 (by decide) ?_
                refine r_icmp_lt (tgt := 229) dX5_valueOf_152 (by decide) (fun c22 => ?_) (fun c22 => ?_)
                · refine r_iinc2 (w := (1 : Int32)) dX5_valueOf_229 rfl (by decide) (by decide) ?_
                  refine r_goto (tgt := 63) dX5_valueOf_232 (by decide) ?_
                  refine r_loc (L' := [(0, .ref (am 5 l0)), (1, .int l1), (2, .ref (am 15 0)), (3, .ref (am 16 0)), (4, .int l4), (5, .int l5), (6, .int l6), (7, .int (l7 + (1 : Int32)))]) [2, 3, 4, 5, 6, 7, 8, 0] rfl ?_
                  exact ih σ  l0 l1 l4 l5 l6 (l7 + (1 : Int32)) (by exact i0) (by exact i1) (by first | with_reducible exact i2 | with_reducible exact (Ct.up (by decide) ct160 i2 (by with_reducible assumption)).2.1 | with_reducible exact (Ct.p2 (by decide) i2 (by with_reducible assumption)).2.2) (by have u := (cd_in (l := l7) i1 (by with_reducible assumption) (by with_reducible assumption)).2; omega) (by rw [f_X5_valueOf_L63, if_neg c9, if_neg c11, if_neg c13, if_pos c15, if_neg c16, if_pos c20, if_pos c22] at hK; exact hK)
                · refine r_aload_n dX5_valueOf_155 rfl ?_
                  refine r_iload dX5_valueOf_156 rfl ?_
                  refine r_iconst (v := (1 : Int32)) dX5_valueOf_158 (by decide) ?_
                  refine r_isub dX5_valueOf_159 ?_
                  refine x_ialdV (c := 16) (i := 0) (N := 160) (x := (σ.2 16 0 (Int32.toNatClampNeg (l6 - (1 : Int32))))) hE (fun _ _ => rfl) dX5_valueOf_160 (Nat.le_of_ble_eq_true rfl) (by exact Ct.p1 (by decide) i2 (by with_reducible assumption)) rfl ?_
                  refine r_istore dX5_valueOf_161 (by decide) ?_
                  refine r_aload_n dX5_valueOf_163 rfl ?_
                  refine r_iload dX5_valueOf_164 rfl ?_
                  refine r_iconst (v := (1 : Int32)) dX5_valueOf_166 (by decide) ?_
                  refine r_isub dX5_valueOf_167 ?_
                  refine r_iload dX5_valueOf_168 rfl ?_
                  refine r_bipush (v := (-100 : Int32)) dX5_valueOf_170 (by decide) ?_
                  refine r_icmp_ne (tgt := 181) dX5_valueOf_172 (by decide) (fun c23 => ?_) (fun c23 => ?_)
                  · refine r_iload dX5_valueOf_181 rfl ?_
                    refine r_if_ne (tgt := 190) dX5_valueOf_183 (by decide) (fun c24 => ?_) (fun c24 => ?_)
                    · refine r_iconst (v := (0 : Int32)) dX5_valueOf_190 (by decide) ?_
                      refine r_callS0 dX5_valueOf_191 mf_X5_truth ml_RX5_24 (ok_X5_truth (d := d - 1) (by omega) _) rfl rfl (Nat.le_of_ble_eq_true rfl) (by omega) ?_
                      refine x_iast (c := 16) (i := 0) (N := 160) hE (fun _ _ => rfl) dX5_valueOf_194 (Nat.le_of_ble_eq_true rfl) (by exact Ct.p1 (by decide) i2 (by with_reducible assumption)) ?_
                      refine r_goto (tgt := 229) dX5_valueOf_195 (by decide) ?_
                      refine r_iinc2 (w := (1 : Int32)) dX5_valueOf_229 rfl (by decide) (by decide) ?_
                      refine r_goto (tgt := 63) dX5_valueOf_232 (by decide) ?_
                      refine r_loc (L' := [(0, .ref (am 5 l0)), (1, .int l1), (2, .ref (am 15 0)), (3, .ref (am 16 0)), (4, .int l4), (5, .int l5), (6, .int l6), (7, .int (l7 + (1 : Int32)))]) [3, 4, 5, 6, 7, 8, 9, 0] rfl ?_
                      exact ih (xa σ 16 0 (Int32.toNatClampNeg (l6 - (1 : Int32))) (f_X5_truth (0 : Int32)))  l0 l1 l4 l5 l6 (l7 + (1 : Int32)) (by exact i0) (by exact i1) (by first | with_reducible exact i2 | with_reducible exact (Ct.up (by decide) ct160 i2 (by with_reducible assumption)).2.1 | with_reducible exact (Ct.p2 (by decide) i2 (by with_reducible assumption)).2.2) (by have u := (cd_in (l := l7) i1 (by with_reducible assumption) (by with_reducible assumption)).2; omega) (by rw [f_X5_valueOf_L63, if_neg c9, if_neg c11, if_neg c13, if_pos c15, if_neg c16, if_pos c20, if_neg c22, if_neg c23, if_neg c24] at hK; exact hK)
                    · refine r_iconst (v := (1 : Int32)) dX5_valueOf_186 (by decide) ?_
                      refine r_goto (tgt := 191) dX5_valueOf_187 (by decide) ?_
                      refine r_callS0 dX5_valueOf_191 mf_X5_truth ml_RX5_24 (ok_X5_truth (d := d - 1) (by omega) _) rfl rfl (Nat.le_of_ble_eq_true rfl) (by omega) ?_
                      refine x_iast (c := 16) (i := 0) (N := 160) hE (fun _ _ => rfl) dX5_valueOf_194 (Nat.le_of_ble_eq_true rfl) (by exact Ct.p1 (by decide) i2 (by with_reducible assumption)) ?_
                      refine r_goto (tgt := 229) dX5_valueOf_195 (by decide) ?_
                      refine r_iinc2 (w := (1 : Int32)) dX5_valueOf_229 rfl (by decide) (by decide) ?_
                      refine r_goto (tgt := 63) dX5_valueOf_232 (by decide) ?_
                      refine r_loc (L' := [(0, .ref (am 5 l0)), (1, .int l1), (2, .ref (am 15 0)), (3, .ref (am 16 0)), (4, .int l4), (5, .int l5), (6, .int l6), (7, .int (l7 + (1 : Int32)))]) [3, 4, 5, 6, 7, 8, 9, 0] rfl ?_
                      exact ih (xa σ 16 0 (Int32.toNatClampNeg (l6 - (1 : Int32))) (f_X5_truth (1 : Int32)))  l0 l1 l4 l5 l6 (l7 + (1 : Int32)) (by exact i0) (by exact i1) (by first | with_reducible exact i2 | with_reducible exact (Ct.up (by decide) ct160 i2 (by with_reducible assumption)).2.1 | with_reducible exact (Ct.p2 (by decide) i2 (by with_reducible assumption)).2.2) (by have u := (cd_in (l := l7) i1 (by with_reducible assumption) (by with_reducible assumption)).2; omega) (by rw [f_X5_valueOf_L63, if_neg c9, if_neg c11, if_neg c13, if_pos c15, if_neg c16, if_pos c20, if_neg c22, if_neg c23, if_pos c24] at hK; exact hK)
                  · refine r_iload dX5_valueOf_175 rfl ?_
                    refine r_ineg dX5_valueOf_177 ?_
                    refine r_goto (tgt := 194) dX5_valueOf_178 (by decide) ?_
                    refine x_iast (c := 16) (i := 0) (N := 160) hE (fun _ _ => rfl) dX5_valueOf_194 (Nat.le_of_ble_eq_true rfl) (by exact Ct.p1 (by decide) i2 (by with_reducible assumption)) ?_
                    refine r_goto (tgt := 229) dX5_valueOf_195 (by decide) ?_
                    refine r_iinc2 (w := (1 : Int32)) dX5_valueOf_229 rfl (by decide) (by decide) ?_
                    refine r_goto (tgt := 63) dX5_valueOf_232 (by decide) ?_
                    refine r_loc (L' := [(0, .ref (am 5 l0)), (1, .int l1), (2, .ref (am 15 0)), (3, .ref (am 16 0)), (4, .int l4), (5, .int l5), (6, .int l6), (7, .int (l7 + (1 : Int32)))]) [3, 4, 5, 6, 7, 8, 9, 0] rfl ?_
                    exact ih (xa σ 16 0 (Int32.toNatClampNeg (l6 - (1 : Int32))) (-(σ.2 16 0 (Int32.toNatClampNeg (l6 - (1 : Int32))))))  l0 l1 l4 l5 l6 (l7 + (1 : Int32)) (by exact i0) (by exact i1) (by first | with_reducible exact i2 | with_reducible exact (Ct.up (by decide) ct160 i2 (by with_reducible assumption)).2.1 | with_reducible exact (Ct.p2 (by decide) i2 (by with_reducible assumption)).2.2) (by have u := (cd_in (l := l7) i1 (by with_reducible assumption) (by with_reducible assumption)).2; omega) (by rw [f_X5_valueOf_L63, if_neg c9, if_neg c11, if_neg c13, if_pos c15, if_neg c16, if_pos c20, if_neg c22, if_pos c23] at hK; exact hK)
          · refine r_iload dX5_valueOf_102 rfl ?_
            refine r_aload_n dX5_valueOf_104 rfl ?_
            refine x_alen (t0 := 0) (x := (160 : Int32)) hE rfl rfl dX5_valueOf_105 (Nat.le_of_ble_eq_true rfl) rfl ?_
            refine r_icmp_ge (tgt := 229) dX5_valueOf_106 (by decide) (fun c25 => ?_) (fun c25 => ?_)
            · refine r_iinc2 (w := (1 : Int32)) dX5_valueOf_229 rfl (by decide) (by decide) ?_
              refine r_goto (tgt := 63) dX5_valueOf_232 (by decide) ?_
              refine r_loc (L' := [(0, .ref (am 5 l0)), (1, .int l1), (2, .ref (am 15 0)), (3, .ref (am 16 0)), (4, .int l4), (5, .int l5), (6, .int l6), (7, .int (l7 + (1 : Int32)))]) [2, 3, 4, 5, 6, 7, 8, 0] rfl ?_
              exact ih σ  l0 l1 l4 l5 l6 (l7 + (1 : Int32)) (by exact i0) (by exact i1) (by first | with_reducible exact i2 | with_reducible exact (Ct.up (by decide) ct160 i2 (by with_reducible assumption)).2.1 | with_reducible exact (Ct.p2 (by decide) i2 (by with_reducible assumption)).2.2) (by have u := (cd_in (l := l7) i1 (by with_reducible assumption) (by with_reducible assumption)).2; omega) (by rw [f_X5_valueOf_L63, if_neg c9, if_neg c11, if_neg c13, if_neg c15, if_pos c25] at hK; exact hK)
            · refine r_aload_n dX5_valueOf_109 rfl ?_
              refine r_iload dX5_valueOf_110 rfl ?_
              refine r_iload dX5_valueOf_112 rfl ?_
              refine r_if_lt (tgt := 122) dX5_valueOf_114 (by decide) (fun c26 => ?_) (fun c26 => ?_)
              · refine r_aload_n dX5_valueOf_122 rfl ?_
                refine r_iconst (v := (-1 : Int32)) dX5_valueOf_123 (by decide) ?_
                refine r_iload dX5_valueOf_124 rfl ?_
                refine r_isub dX5_valueOf_126 ?_
                refine x_ialdV (c := 15) (i := 0) (N := 6) (x := (σ.2 15 0 (Int32.toNatClampNeg ((-1 : Int32) - (σ.2 32 l0 (Int32.toNatClampNeg l7)))))) hE (fun _ _ => rfl) dX5_valueOf_127 (Nat.le_of_ble_eq_true rfl) (by exact nm_in (by with_reducible assumption) (by with_reducible assumption)) rfl ?_
                refine x_iast (c := 16) (i := 0) (N := 160) hE (fun _ _ => rfl) dX5_valueOf_128 (Nat.le_of_ble_eq_true rfl) (by exact (Ct.up (by decide) ct160 i2 (by with_reducible assumption)).1) ?_
                refine r_iinc2 (w := (1 : Int32)) dX5_valueOf_129 rfl (by decide) (by decide) ?_
                refine r_goto (tgt := 229) dX5_valueOf_132 (by decide) ?_
                refine r_iinc2 (w := (1 : Int32)) dX5_valueOf_229 rfl (by decide) (by decide) ?_
                refine r_goto (tgt := 63) dX5_valueOf_232 (by decide) ?_
                refine r_loc (L' := [(0, .ref (am 5 l0)), (1, .int l1), (2, .ref (am 15 0)), (3, .ref (am 16 0)), (4, .int l4), (5, .int l5), (6, .int (l6 + (1 : Int32))), (7, .int (l7 + (1 : Int32)))]) [3, 4, 5, 6, 7, 8, 1, 0] rfl ?_
                exact ih (xa σ 16 0 (Int32.toNatClampNeg l6) (σ.2 15 0 (Int32.toNatClampNeg ((-1 : Int32) - (σ.2 32 l0 (Int32.toNatClampNeg l7))))))  l0 l1 l4 l5 (l6 + (1 : Int32)) (l7 + (1 : Int32)) (by exact i0) (by exact i1) (by first | with_reducible exact i2 | with_reducible exact (Ct.up (by decide) ct160 i2 (by with_reducible assumption)).2.1 | with_reducible exact (Ct.p2 (by decide) i2 (by with_reducible assumption)).2.2) (by have u := (cd_in (l := l7) i1 (by with_reducible assumption) (by with_reducible assumption)).2; omega) (by rw [f_X5_valueOf_L63, if_neg c9, if_neg c11, if_neg c13, if_neg c15, if_neg c25, if_pos c26] at hK; exact hK)
              · refine r_iload dX5_valueOf_117 rfl ?_
                refine r_goto (tgt := 128) dX5_valueOf_119 (by decide) ?_
                refine x_iast (c := 16) (i := 0) (N := 160) hE (fun _ _ => rfl) dX5_valueOf_128 (Nat.le_of_ble_eq_true rfl) (by exact (Ct.up (by decide) ct160 i2 (by with_reducible assumption)).1) ?_
                refine r_iinc2 (w := (1 : Int32)) dX5_valueOf_129 rfl (by decide) (by decide) ?_
                refine r_goto (tgt := 229) dX5_valueOf_132 (by decide) ?_
                refine r_iinc2 (w := (1 : Int32)) dX5_valueOf_229 rfl (by decide) (by decide) ?_
                refine r_goto (tgt := 63) dX5_valueOf_232 (by decide) ?_
                refine r_loc (L' := [(0, .ref (am 5 l0)), (1, .int l1), (2, .ref (am 15 0)), (3, .ref (am 16 0)), (4, .int l4), (5, .int l5), (6, .int (l6 + (1 : Int32))), (7, .int (l7 + (1 : Int32)))]) [3, 4, 5, 6, 7, 8, 1, 0] rfl ?_
                exact ih (xa σ 16 0 (Int32.toNatClampNeg l6) (σ.2 32 l0 (Int32.toNatClampNeg l7)))  l0 l1 l4 l5 (l6 + (1 : Int32)) (l7 + (1 : Int32)) (by exact i0) (by exact i1) (by first | with_reducible exact i2 | with_reducible exact (Ct.up (by decide) ct160 i2 (by with_reducible assumption)).2.1 | with_reducible exact (Ct.p2 (by decide) i2 (by with_reducible assumption)).2.2) (by have u := (cd_in (l := l7) i1 (by with_reducible assumption) (by with_reducible assumption)).2; omega) (by rw [f_X5_valueOf_L63, if_neg c9, if_neg c11, if_neg c13, if_neg c15, if_neg c25, if_neg c26] at hK; exact hK)
def f_X5_valueOf (S : XSh) (σ : XSt) (o : Nat) (p1 : Int32) : Int32 × XSt := (if p1 = 0 then (if p1 = 0 then (f_X5_valueOf_L63 (162) S σ o p1 (0 : Int32) (σ.1 5 o 1) (0 : Int32) (0 : Int32)) else (if p1 = (1 : Int32) then (f_X5_valueOf_L63 (162) S σ o p1 (0 : Int32) (σ.1 5 o 2) (0 : Int32) (0 : Int32)) else (f_X5_valueOf_L63 (162) S σ o p1 (0 : Int32) (nI (S 5 o)) (0 : Int32) (0 : Int32)))) else (if p1 = (1 : Int32) then (if p1 = 0 then (f_X5_valueOf_L63 (162) S σ o p1 (σ.1 5 o 1) (σ.1 5 o 1) (0 : Int32) (σ.1 5 o 1)) else (if p1 = (1 : Int32) then (f_X5_valueOf_L63 (162) S σ o p1 (σ.1 5 o 1) (σ.1 5 o 2) (0 : Int32) (σ.1 5 o 1)) else (f_X5_valueOf_L63 (162) S σ o p1 (σ.1 5 o 1) (nI (S 5 o)) (0 : Int32) (σ.1 5 o 1)))) else (if p1 = 0 then (f_X5_valueOf_L63 (162) S σ o p1 (σ.1 5 o 2) (σ.1 5 o 1) (0 : Int32) (σ.1 5 o 2)) else (if p1 = (1 : Int32) then (f_X5_valueOf_L63 (162) S σ o p1 (σ.1 5 o 2) (σ.1 5 o 2) (0 : Int32) (σ.1 5 o 2)) else (f_X5_valueOf_L63 (162) S σ o p1 (σ.1 5 o 2) (nI (S 5 o)) (0 : Int32) (σ.1 5 o 2))))))
set_option maxRecDepth 100000 in
set_option maxHeartbeats 1000000 in
theorem ok_X5_valueOf {g : GC} {B : hH} {am : XAd} {S : XSh} {d : Nat} (hE : XOk am S) (hX : GX g) (hd : 2 ≤ d) (σ : XSt) (o : Nat) (p1 : Int32) (ho : o < lim S 5) (h0 : S 5 o ≤ 160) : XC g B am S d yX5_valueOf cX5_valueOf 10 (some FieldType.int) [.ref (am 5 o), .int p1, .ref (am 15 0), .ref (am 16 0)] (fun v σ' => v = some (.int (f_X5_valueOf S σ o p1).1) ∧ σ' = (f_X5_valueOf S σ o p1).2) σ := by
  refine AM.of2 (own := RX5) (nm := "valueOf") (L0 := [(0, .ref (am 5 o)), (1, .int p1), (2, .ref (am 15 0)), (3, .ref (am 16 0))]) (by decide) rfl rfl (Nat.le_of_ble_eq_true rfl) rfl ?_
  refine r_iload_n dX5_valueOf_0 rfl ?_
  refine r_if_ne (tgt := 8) dX5_valueOf_1 (by decide) (fun c1 => ?_) (fun c1 => ?_)
  · refine r_iload_n dX5_valueOf_8 rfl ?_
    refine r_iconst (v := (1 : Int32)) dX5_valueOf_9 (by decide) ?_
    refine r_icmp_ne (tgt := 20) dX5_valueOf_10 (by decide) (fun c2 => ?_) (fun c2 => ?_)
    · refine r_aload_n dX5_valueOf_20 rfl ?_
      refine x_getI (c := 5) (x := (σ.1 5 o 2)) hE (fun _ _ => rfl) (fun _ => rfl) dX5_valueOf_21 fl_RX5_19 ho rfl ?_
      refine r_istore dX5_valueOf_24 (by decide) ?_
      refine r_iload_n dX5_valueOf_26 rfl ?_
      refine r_if_ne (tgt := 37) dX5_valueOf_27 (by decide) (fun c3 => ?_) (fun c3 => ?_)
      · refine r_iload_n dX5_valueOf_37 rfl ?_
        refine r_iconst (v := (1 : Int32)) dX5_valueOf_38 (by decide) ?_
        refine r_icmp_ne (tgt := 49) dX5_valueOf_39 (by decide) (fun c4 => ?_) (fun c4 => ?_)
        · refine r_aload_n dX5_valueOf_49 rfl ?_
          refine x_get (c := 5) hE (fun _ _ => rfl) dX5_valueOf_50 fl_RX5_9 ho rfl ?_
          refine x_alen (t0 := 0) (x := (nI (S 5 o))) hE rfl rfl dX5_valueOf_53 ho rfl ?_
          refine r_istore dX5_valueOf_54 (by decide) ?_
          refine r_iconst (v := (0 : Int32)) dX5_valueOf_56 (by decide) ?_
          refine r_istore dX5_valueOf_57 (by decide) ?_
          refine r_iload dX5_valueOf_59 rfl ?_
          refine r_istore dX5_valueOf_61 (by decide) ?_
          refine r_loc (L' := [(0, .ref (am 5 o)), (1, .int p1), (2, .ref (am 15 0)), (3, .ref (am 16 0)), (4, .int (σ.1 5 o 2)), (5, .int (nI (S 5 o))), (6, .int (0 : Int32)), (7, .int (σ.1 5 o 2))]) [4, 5, 6, 7, 3, 2, 1, 0] rfl ?_
          exact lp_X5_valueOf_63 hE hX (by omega) (162) σ o p1 (σ.1 5 o 2) (nI (S 5 o)) (0 : Int32) (σ.1 5 o 2) (by exact ho) (by exact h0) (by exact Ct.zero _) (by omega) ⟨by rw [f_X5_valueOf, if_neg c1, if_neg c2, if_neg c3, if_neg c4], by rw [f_X5_valueOf, if_neg c1, if_neg c2, if_neg c3, if_neg c4]⟩
        · refine r_aload_n dX5_valueOf_42 rfl ?_
          refine x_getI (c := 5) (x := (σ.1 5 o 2)) hE (fun _ _ => rfl) (fun _ => rfl) dX5_valueOf_43 fl_RX5_19 ho rfl ?_
          refine r_goto (tgt := 54) dX5_valueOf_46 (by decide) ?_
          refine r_istore dX5_valueOf_54 (by decide) ?_
          refine r_iconst (v := (0 : Int32)) dX5_valueOf_56 (by decide) ?_
          refine r_istore dX5_valueOf_57 (by decide) ?_
          refine r_iload dX5_valueOf_59 rfl ?_
          refine r_istore dX5_valueOf_61 (by decide) ?_
          refine r_loc (L' := [(0, .ref (am 5 o)), (1, .int p1), (2, .ref (am 15 0)), (3, .ref (am 16 0)), (4, .int (σ.1 5 o 2)), (5, .int (σ.1 5 o 2)), (6, .int (0 : Int32)), (7, .int (σ.1 5 o 2))]) [4, 5, 6, 7, 3, 2, 1, 0] rfl ?_
          exact lp_X5_valueOf_63 hE hX (by omega) (162) σ o p1 (σ.1 5 o 2) (σ.1 5 o 2) (0 : Int32) (σ.1 5 o 2) (by exact ho) (by exact h0) (by exact Ct.zero _) (by omega) ⟨by rw [f_X5_valueOf, if_neg c1, if_neg c2, if_neg c3, if_pos c4], by rw [f_X5_valueOf, if_neg c1, if_neg c2, if_neg c3, if_pos c4]⟩
      · refine r_aload_n dX5_valueOf_30 rfl ?_
        refine x_getI (c := 5) (x := (σ.1 5 o 1)) hE (fun _ _ => rfl) (fun _ => rfl) dX5_valueOf_31 fl_RX5_15 ho rfl ?_
        refine r_goto (tgt := 54) dX5_valueOf_34 (by decide) ?_
        refine r_istore dX5_valueOf_54 (by decide) ?_
        refine r_iconst (v := (0 : Int32)) dX5_valueOf_56 (by decide) ?_
        refine r_istore dX5_valueOf_57 (by decide) ?_
        refine r_iload dX5_valueOf_59 rfl ?_
        refine r_istore dX5_valueOf_61 (by decide) ?_
        refine r_loc (L' := [(0, .ref (am 5 o)), (1, .int p1), (2, .ref (am 15 0)), (3, .ref (am 16 0)), (4, .int (σ.1 5 o 2)), (5, .int (σ.1 5 o 1)), (6, .int (0 : Int32)), (7, .int (σ.1 5 o 2))]) [4, 5, 6, 7, 3, 2, 1, 0] rfl ?_
        exact lp_X5_valueOf_63 hE hX (by omega) (162) σ o p1 (σ.1 5 o 2) (σ.1 5 o 1) (0 : Int32) (σ.1 5 o 2) (by exact ho) (by exact h0) (by exact Ct.zero _) (by omega) ⟨by rw [f_X5_valueOf, if_neg c1, if_neg c2, if_pos c3], by rw [f_X5_valueOf, if_neg c1, if_neg c2, if_pos c3]⟩
    · refine r_aload_n dX5_valueOf_13 rfl ?_
      refine x_getI (c := 5) (x := (σ.1 5 o 1)) hE (fun _ _ => rfl) (fun _ => rfl) dX5_valueOf_14 fl_RX5_15 ho rfl ?_
      refine r_goto (tgt := 24) dX5_valueOf_17 (by decide) ?_
      refine r_istore dX5_valueOf_24 (by decide) ?_
      refine r_iload_n dX5_valueOf_26 rfl ?_
      refine r_if_ne (tgt := 37) dX5_valueOf_27 (by decide) (fun c5 => ?_) (fun c5 => ?_)
      · refine r_iload_n dX5_valueOf_37 rfl ?_
        refine r_iconst (v := (1 : Int32)) dX5_valueOf_38 (by decide) ?_
        refine r_icmp_ne (tgt := 49) dX5_valueOf_39 (by decide) (fun c6 => ?_) (fun c6 => ?_)
        · refine r_aload_n dX5_valueOf_49 rfl ?_
          refine x_get (c := 5) hE (fun _ _ => rfl) dX5_valueOf_50 fl_RX5_9 ho rfl ?_
          refine x_alen (t0 := 0) (x := (nI (S 5 o))) hE rfl rfl dX5_valueOf_53 ho rfl ?_
          refine r_istore dX5_valueOf_54 (by decide) ?_
          refine r_iconst (v := (0 : Int32)) dX5_valueOf_56 (by decide) ?_
          refine r_istore dX5_valueOf_57 (by decide) ?_
          refine r_iload dX5_valueOf_59 rfl ?_
          refine r_istore dX5_valueOf_61 (by decide) ?_
          refine r_loc (L' := [(0, .ref (am 5 o)), (1, .int p1), (2, .ref (am 15 0)), (3, .ref (am 16 0)), (4, .int (σ.1 5 o 1)), (5, .int (nI (S 5 o))), (6, .int (0 : Int32)), (7, .int (σ.1 5 o 1))]) [4, 5, 6, 7, 3, 2, 1, 0] rfl ?_
          exact lp_X5_valueOf_63 hE hX (by omega) (162) σ o p1 (σ.1 5 o 1) (nI (S 5 o)) (0 : Int32) (σ.1 5 o 1) (by exact ho) (by exact h0) (by exact Ct.zero _) (by omega) ⟨by rw [f_X5_valueOf, if_neg c1, if_pos c2, if_neg c5, if_neg c6], by rw [f_X5_valueOf, if_neg c1, if_pos c2, if_neg c5, if_neg c6]⟩
        · refine r_aload_n dX5_valueOf_42 rfl ?_
          refine x_getI (c := 5) (x := (σ.1 5 o 2)) hE (fun _ _ => rfl) (fun _ => rfl) dX5_valueOf_43 fl_RX5_19 ho rfl ?_
          refine r_goto (tgt := 54) dX5_valueOf_46 (by decide) ?_
          refine r_istore dX5_valueOf_54 (by decide) ?_
          refine r_iconst (v := (0 : Int32)) dX5_valueOf_56 (by decide) ?_
          refine r_istore dX5_valueOf_57 (by decide) ?_
          refine r_iload dX5_valueOf_59 rfl ?_
          refine r_istore dX5_valueOf_61 (by decide) ?_
          refine r_loc (L' := [(0, .ref (am 5 o)), (1, .int p1), (2, .ref (am 15 0)), (3, .ref (am 16 0)), (4, .int (σ.1 5 o 1)), (5, .int (σ.1 5 o 2)), (6, .int (0 : Int32)), (7, .int (σ.1 5 o 1))]) [4, 5, 6, 7, 3, 2, 1, 0] rfl ?_
          exact lp_X5_valueOf_63 hE hX (by omega) (162) σ o p1 (σ.1 5 o 1) (σ.1 5 o 2) (0 : Int32) (σ.1 5 o 1) (by exact ho) (by exact h0) (by exact Ct.zero _) (by omega) ⟨by rw [f_X5_valueOf, if_neg c1, if_pos c2, if_neg c5, if_pos c6], by rw [f_X5_valueOf, if_neg c1, if_pos c2, if_neg c5, if_pos c6]⟩
      · refine r_aload_n dX5_valueOf_30 rfl ?_
        refine x_getI (c := 5) (x := (σ.1 5 o 1)) hE (fun _ _ => rfl) (fun _ => rfl) dX5_valueOf_31 fl_RX5_15 ho rfl ?_
        refine r_goto (tgt := 54) dX5_valueOf_34 (by decide) ?_
        refine r_istore dX5_valueOf_54 (by decide) ?_
        refine r_iconst (v := (0 : Int32)) dX5_valueOf_56 (by decide) ?_
        refine r_istore dX5_valueOf_57 (by decide) ?_
        refine r_iload dX5_valueOf_59 rfl ?_
        refine r_istore dX5_valueOf_61 (by decide) ?_
        refine r_loc (L' := [(0, .ref (am 5 o)), (1, .int p1), (2, .ref (am 15 0)), (3, .ref (am 16 0)), (4, .int (σ.1 5 o 1)), (5, .int (σ.1 5 o 1)), (6, .int (0 : Int32)), (7, .int (σ.1 5 o 1))]) [4, 5, 6, 7, 3, 2, 1, 0] rfl ?_
        exact lp_X5_valueOf_63 hE hX (by omega) (162) σ o p1 (σ.1 5 o 1) (σ.1 5 o 1) (0 : Int32) (σ.1 5 o 1) (by exact ho) (by exact h0) (by exact Ct.zero _) (by omega) ⟨by rw [f_X5_valueOf, if_neg c1, if_pos c2, if_pos c5], by rw [f_X5_valueOf, if_neg c1, if_pos c2, if_pos c5]⟩
  · refine r_iconst (v := (0 : Int32)) dX5_valueOf_4 (by decide) ?_
    refine r_goto (tgt := 24) dX5_valueOf_5 (by decide) ?_
    refine r_istore dX5_valueOf_24 (by decide) ?_
    refine r_iload_n dX5_valueOf_26 rfl ?_
    refine r_if_ne (tgt := 37) dX5_valueOf_27 (by decide) (fun c7 => ?_) (fun c7 => ?_)
    · refine r_iload_n dX5_valueOf_37 rfl ?_
      refine r_iconst (v := (1 : Int32)) dX5_valueOf_38 (by decide) ?_
      refine r_icmp_ne (tgt := 49) dX5_valueOf_39 (by decide) (fun c8 => ?_) (fun c8 => ?_)
      · refine r_aload_n dX5_valueOf_49 rfl ?_
        refine x_get (c := 5) hE (fun _ _ => rfl) dX5_valueOf_50 fl_RX5_9 ho rfl ?_
        refine x_alen (t0 := 0) (x := (nI (S 5 o))) hE rfl rfl dX5_valueOf_53 ho rfl ?_
        refine r_istore dX5_valueOf_54 (by decide) ?_
        refine r_iconst (v := (0 : Int32)) dX5_valueOf_56 (by decide) ?_
        refine r_istore dX5_valueOf_57 (by decide) ?_
        refine r_iload dX5_valueOf_59 rfl ?_
        refine r_istore dX5_valueOf_61 (by decide) ?_
        refine r_loc (L' := [(0, .ref (am 5 o)), (1, .int p1), (2, .ref (am 15 0)), (3, .ref (am 16 0)), (4, .int (0 : Int32)), (5, .int (nI (S 5 o))), (6, .int (0 : Int32)), (7, .int (0 : Int32))]) [4, 5, 6, 7, 3, 2, 1, 0] rfl ?_
        exact lp_X5_valueOf_63 hE hX (by omega) (162) σ o p1 (0 : Int32) (nI (S 5 o)) (0 : Int32) (0 : Int32) (by exact ho) (by exact h0) (by exact Ct.zero _) (by omega) ⟨by rw [f_X5_valueOf, if_pos c1, if_neg c7, if_neg c8], by rw [f_X5_valueOf, if_pos c1, if_neg c7, if_neg c8]⟩
      · refine r_aload_n dX5_valueOf_42 rfl ?_
        refine x_getI (c := 5) (x := (σ.1 5 o 2)) hE (fun _ _ => rfl) (fun _ => rfl) dX5_valueOf_43 fl_RX5_19 ho rfl ?_
        refine r_goto (tgt := 54) dX5_valueOf_46 (by decide) ?_
        refine r_istore dX5_valueOf_54 (by decide) ?_
        refine r_iconst (v := (0 : Int32)) dX5_valueOf_56 (by decide) ?_
        refine r_istore dX5_valueOf_57 (by decide) ?_
        refine r_iload dX5_valueOf_59 rfl ?_
        refine r_istore dX5_valueOf_61 (by decide) ?_
        refine r_loc (L' := [(0, .ref (am 5 o)), (1, .int p1), (2, .ref (am 15 0)), (3, .ref (am 16 0)), (4, .int (0 : Int32)), (5, .int (σ.1 5 o 2)), (6, .int (0 : Int32)), (7, .int (0 : Int32))]) [4, 5, 6, 7, 3, 2, 1, 0] rfl ?_
        exact lp_X5_valueOf_63 hE hX (by omega) (162) σ o p1 (0 : Int32) (σ.1 5 o 2) (0 : Int32) (0 : Int32) (by exact ho) (by exact h0) (by exact Ct.zero _) (by omega) ⟨by rw [f_X5_valueOf, if_pos c1, if_neg c7, if_pos c8], by rw [f_X5_valueOf, if_pos c1, if_neg c7, if_pos c8]⟩
    · refine r_aload_n dX5_valueOf_30 rfl ?_
      refine x_getI (c := 5) (x := (σ.1 5 o 1)) hE (fun _ _ => rfl) (fun _ => rfl) dX5_valueOf_31 fl_RX5_15 ho rfl ?_
      refine r_goto (tgt := 54) dX5_valueOf_34 (by decide) ?_
      refine r_istore dX5_valueOf_54 (by decide) ?_
      refine r_iconst (v := (0 : Int32)) dX5_valueOf_56 (by decide) ?_
      refine r_istore dX5_valueOf_57 (by decide) ?_
      refine r_iload dX5_valueOf_59 rfl ?_
      refine r_istore dX5_valueOf_61 (by decide) ?_
      refine r_loc (L' := [(0, .ref (am 5 o)), (1, .int p1), (2, .ref (am 15 0)), (3, .ref (am 16 0)), (4, .int (0 : Int32)), (5, .int (σ.1 5 o 1)), (6, .int (0 : Int32)), (7, .int (0 : Int32))]) [4, 5, 6, 7, 3, 2, 1, 0] rfl ?_
      exact lp_X5_valueOf_63 hE hX (by omega) (162) σ o p1 (0 : Int32) (σ.1 5 o 1) (0 : Int32) (0 : Int32) (by exact ho) (by exact h0) (by exact Ct.zero _) (by omega) ⟨by rw [f_X5_valueOf, if_pos c1, if_pos c7], by rw [f_X5_valueOf, if_pos c1, if_pos c7]⟩
