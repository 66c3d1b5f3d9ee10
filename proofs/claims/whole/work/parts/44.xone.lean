theorem ok_next' {S : XSh} {t : TB} {σ0 σ : XSt} {cs : List Int32} {p : Nat} (hT : XT σ0 t) (h : OkX t σ0 cs p σ) (hk : (tk t p).1 = 0 ∨ (tk t p).1 = 1 ∨ (tk t p).1 = 2 ∨ (tk t p).1 = 3) : OkX t σ0 cs (tk t p).2.2.2 (f_X4_next S σ) := by
  obtain ⟨⟨h1, h2, h3, ⟨q, hq, h4, h5⟩, h6⟩, h7, h8, h9, h10⟩ := h
  have ep := h5 hk
  subst ep
  obtain ⟨q', nb, e, hq', g1, g2⟩ := nx_eq (S := S) (hT.sm h10) h4 (tk_le t p h1).2.1
  rw [e]
  refine ⟨⟨(tk_le t p h1).2.1, rfl, rfl, ⟨q', hq', rfl, g1⟩, g2⟩, h7, h8, h9, h10.xn _ _ _ _⟩
theorem ct_14 {T : Tk} (h : TkOk T) (hc : ¬ ctok T = 14) : T.1 = 0 ∨ T.1 = 1 ∨ T.1 = 2 ∨ T.1 = 3 := by
  rcases h with h | h | h | ⟨h, -⟩ | h
  · exact Or.inl h
  · exact Or.inr (Or.inl h)
  · exact Or.inr (Or.inr (Or.inl h))
  · exact Or.inr (Or.inr (Or.inr h))
  · exact absurd (ct4 h) hc
def cmpG (t : TB) (add : Nat → Rs) (p : Nat) : Rs := match add p with
    | .error x => .error x
    | .ok r => if (tk t r.2.2).1 = 3 ∧ ((tk t r.2.2).2.2.1 = 60 ∨ (tk t r.2.2).2.2.1 = 61) then (match add (tk t r.2.2).2.2.2 with
        | .error x => .error x
        | .ok r2 => .ok (r.1 ++ r2.1 ++ [if (tk t r.2.2).2.2.1 = 60 then -60 else -61], (fun v => jn (if (tk t r.2.2).2.2.1 = 60 then -60 else -61) (r.2.1 v) (r2.2.1 v)), r2.2.2))
      else .ok r
theorem notG_eq (t : TB) (al : Bool) (rN add : Nat → Rs) (p : Nat) : notG t al rN add p = if (tk t p).1 = 1 ∧ (tk t p).2.2.1 = 10631 then (if al = true then (match rN (tk t p).2.2.2 with
      | .ok r => .ok (r.1 ++ [-11], (fun v => if r.2.1 v = 0 then 1 else 0), r.2.2)
      | .error x => .error x)
    else .error (tk t p).2.1) else cmpG t add p := rfl
set_option maxRecDepth 100000 in
set_option maxHeartbeats 2000000 in
theorem xm_readCompared {g : GC} {B : hH} {am : XAd} {S : XSh} {t : TB} {σ0 : XSt} {o d : Nat} {f : Nat → Rs} (hE : XOk am S) (hX : GX g) (hT : XT σ0 t) (hd : 6 ≤ d) (hF : XMo g B am S (d - 1) t σ0 o f yX4_readSum cX4_readSum 4) (hL : LenG t f) (hM : Mono t f) : XMo g B am S d t σ0 o (cmpG t f) yX4_readCompared cX4_readCompared 3 := by
  have ht := hT.2.1
  intro x σ hs
  refine AM.of2 (own := RX4) (nm := "readCompared") (L0 := [(0, .ref (am 4 0)), (1, .int (nI o))]) (by decide) rfl rfl (Nat.le_of_ble_eq_true rfl) rfl ?_
  refine r_aload_n dX4_readCompared_0 rfl ?_
  refine r_iload_n dX4_readCompared_1 rfl ?_
  refine x_call (c := 4) (i := 0) (As := [.int (nI o)]) hE (fun _ _ => rfl) (Nat.le_of_ble_eq_true rfl) dX4_readCompared_2 mf_X4_readSum ml_RX4_74 (hF x _ hs) rfl rfl rfl rfl (Nat.le_of_ble_eq_true rfl) (by omega) (fun v s1 k1 => ?_)
  obtain ⟨rfl, k1⟩ := k1
  cases x with
  | error y =>
    have k2 : ErX σ0 y s1 := k1
    have hz : ErX σ0 y s1 → StX t σ0 (bd (.error y) (cmpG t f)) s1 := fun h => h
    refine r_aload_n dX4_readCompared_5 rfl ?_
    refine x_getI (c := 4) (x := 14) hE (fun _ _ => rfl) (fun _ => rfl) dX4_readCompared_6 fl_RX4_59 (Nat.le_of_ble_eq_true rfl) (k2.2.1) ?_
    refine r_bipush (v := (60 : Int32)) dX4_readCompared_9 (by decide) ?_
    refine r_icmp_eq (tgt := 23) dX4_readCompared_11 (by decide) (fun c1 => ?_) (fun c1 => ?_)
    · exact absurd c1 (by decide)
    · refine r_aload_n dX4_readCompared_14 rfl ?_
      refine x_getI (c := 4) (x := 14) hE (fun _ _ => rfl) (fun _ => rfl) dX4_readCompared_15 fl_RX4_59 (Nat.le_of_ble_eq_true rfl) (k2.2.1) ?_
      refine r_bipush (v := (61 : Int32)) dX4_readCompared_18 (by decide) ?_
      refine r_icmp_ne (tgt := 43) dX4_readCompared_20 (by decide) (fun c2 => ?_) (fun c2 => ?_)
      · refine r_vret dX4_readCompared_43 rfl ?_
        exact ⟨_, rfl, rfl, hz k2⟩
      · exact absurd c2 (by decide)
  | ok a =>
    obtain ⟨cs, p⟩ := a
    have hp := hs.2.1.1
    cases e1 : f p with
    | error y =>
      have k2 : ErX σ0 y s1 := by
          have := k1
          unfold bd at this
          dsimp only at this
          rw [e1] at this
          exact this
      have hz : ErX σ0 y s1 → StX t σ0 (bd (.ok (cs, p)) (cmpG t f)) s1 := fun h => by
        show StX t σ0 (fin cs (cmpG t f p)) s1
        unfold cmpG
        rw [e1]
        exact h
      refine r_aload_n dX4_readCompared_5 rfl ?_
      refine x_getI (c := 4) (x := 14) hE (fun _ _ => rfl) (fun _ => rfl) dX4_readCompared_6 fl_RX4_59 (Nat.le_of_ble_eq_true rfl) (k2.2.1) ?_
      refine r_bipush (v := (60 : Int32)) dX4_readCompared_9 (by decide) ?_
      refine r_icmp_eq (tgt := 23) dX4_readCompared_11 (by decide) (fun c1 => ?_) (fun c1 => ?_)
      · exact absurd c1 (by decide)
      · refine r_aload_n dX4_readCompared_14 rfl ?_
        refine x_getI (c := 4) (x := 14) hE (fun _ _ => rfl) (fun _ => rfl) dX4_readCompared_15 fl_RX4_59 (Nat.le_of_ble_eq_true rfl) (k2.2.1) ?_
        refine r_bipush (v := (61 : Int32)) dX4_readCompared_18 (by decide) ?_
        refine r_icmp_ne (tgt := 43) dX4_readCompared_20 (by decide) (fun c2 => ?_) (fun c2 => ?_)
        · refine r_vret dX4_readCompared_43 rfl ?_
          exact ⟨_, rfl, rfl, hz k2⟩
        · exact absurd c2 (by decide)
    | ok r =>
      have k2 : (cs ++ r.1).length ≤ r.2.2 ∧ OkX t σ0 (cs ++ r.1) r.2.2 s1 := by
          have := k1
          unfold bd at this
          dsimp only at this
          rw [e1] at this
          exact this
      have hq := k2.2.1.1
      refine r_aload_n dX4_readCompared_5 rfl ?_
      refine x_getI (c := 4) (x := (ctok (tk t r.2.2))) hE (fun _ _ => rfl) (fun _ => rfl) dX4_readCompared_6 fl_RX4_59 (Nat.le_of_ble_eq_true rfl) (k2.2.1.2.1) ?_
      refine r_bipush (v := (60 : Int32)) dX4_readCompared_9 (by decide) ?_
      refine r_icmp_eq (tgt := 23) dX4_readCompared_11 (by decide) (fun c1 => ?_) (fun c1 => ?_)
      · have _h3 : (tk t r.2.2).1 = 3 := ((ct_sg (tk_ok t r.2.2) (c := 60) (by decide)).mp c1).1
        have _hw : (tk t r.2.2).2.2.1 = 60 := ((ct_sg (tk_ok t r.2.2) (c := 60) (by decide)).mp c1).2
        have hgt2 : r.2.2 < (tk t r.2.2).2.2.2 := tk_gt t r.2.2 hq (Or.inr _h3)
        have hs1 := ok_next (S := S) hT k2.2 (Or.inr (Or.inr _h3))
        have hq2 := (tk_le t r.2.2 hq).2.1
        refine r_aload_n dX4_readCompared_23 rfl ?_
        refine x_getI (c := 4) (x := (60 : Int32)) hE (fun _ _ => rfl) (fun _ => rfl) dX4_readCompared_24 fl_RX4_59 (Nat.le_of_ble_eq_true rfl) (k2.2.1.2.1.trans c1) ?_
        refine r_istore_n dX4_readCompared_27 (by decide) ?_
        refine r_aload_n dX4_readCompared_28 rfl ?_
        refine x_callV0 (c := 4) (i := 0) hE (fun _ _ => rfl) (Nat.le_of_ble_eq_true rfl) dX4_readCompared_29 mf_X4_next ml_RX4_32 (ok_X4_next (d := d - 1) hE hX (by omega) _ (k2.2.size hT) k2.2.place) rfl rfl rfl rfl (Nat.le_of_ble_eq_true rfl) (by omega) ?_
        refine r_aload_n dX4_readCompared_32 rfl ?_
        refine r_iload_n dX4_readCompared_33 rfl ?_
        refine x_call (c := 4) (i := 0) (As := [.int (nI o)]) hE (fun _ _ => rfl) (Nat.le_of_ble_eq_true rfl) dX4_readCompared_34 mf_X4_readSum ml_RX4_74 (hF (.ok (cs ++ r.1, (tk t r.2.2).2.2.2)) _ ⟨by have := k2.1; show (cs ++ r.1).length ≤ _; omega, hs1⟩) rfl rfl rfl rfl (Nat.le_of_ble_eq_true rfl) (by omega) (fun v2 s2 k3 => ?_)
        obtain ⟨rfl, k3⟩ := k3
        cases e2 : f (tk t r.2.2).2.2.2 with
        | error y =>
          have k4 : ErX σ0 y s2 := by
            have := k3
            unfold bd at this
            dsimp only at this
            rw [e2] at this
            exact this
          refine r_aload_n dX4_readCompared_37 rfl ?_
          refine r_iload_n dX4_readCompared_38 rfl ?_
          refine r_ineg dX4_readCompared_39 ?_
          refine x_callV0 (c := 4) (i := 0) hE (fun _ _ => rfl) (Nat.le_of_ble_eq_true rfl) dX4_readCompared_40 mf_X4_emit ml_RX4_62 (ok_X4_emit (d := d - 1) hE hX (by omega) _ _ k4.2.2.1) rfl rfl rfl rfl (Nat.le_of_ble_eq_true rfl) (by omega) ?_
          have ef : fin cs (cmpG t f p) = .error y := by
            unfold cmpG
            rw [e1]
            dsimp only
            rw [if_pos ⟨_h3, Or.inl _hw⟩, e2]
            rfl
          refine r_vret dX4_readCompared_43 rfl ?_
          exact ⟨_, rfl, rfl, by show StX t σ0 (fin cs (cmpG t f p)) _; rw [ef]; exact er_emit k4 _⟩
        | ok r2 =>
          have k4 : (cs ++ r.1 ++ r2.1).length ≤ r2.2.2 ∧ OkX t σ0 (cs ++ r.1 ++ r2.1) r2.2.2 s2 := by
            have := k3
            unfold bd at this
            dsimp only at this
            rw [e2] at this
            exact this
          have l1 := hL _ hq2 _ e2
          have m1 := (hM _ hq2).1 _ e2
          have l3 : (cs ++ r.1 ++ r2.1).length = (cs ++ r.1).length + r2.1.length := List.length_append
          have := k2.1
          refine r_aload_n dX4_readCompared_37 rfl ?_
          refine r_iload_n dX4_readCompared_38 rfl ?_
          refine r_ineg dX4_readCompared_39 ?_
          refine x_callV0 (c := 4) (i := 0) hE (fun _ _ => rfl) (Nat.le_of_ble_eq_true rfl) dX4_readCompared_40 mf_X4_emit ml_RX4_62 (ok_X4_emit (d := d - 1) hE hX (by omega) _ _ k4.2.cs) rfl rfl rfl rfl (Nat.le_of_ble_eq_true rfl) (by omega) ?_
          have hs3 := ok_emit (S := S) k4.2 (by omega) (-(60 : Int32))
          have ef : fin cs (cmpG t f p) = .ok (cs ++ r.1 ++ r2.1 ++ [-60], r2.2.2) := by
            unfold cmpG
            rw [e1]
            dsimp only
            rw [if_pos ⟨_h3, Or.inl _hw⟩, e2]
            show Except.ok (cs ++ (r.1 ++ r2.1 ++ [_]), r2.2.2) = _
            rw [if_pos _hw, ← List.append_assoc, ← List.append_assoc]
          refine r_vret dX4_readCompared_43 rfl ?_
          exact ⟨_, rfl, rfl, by
            show StX t σ0 (fin cs (cmpG t f p)) _
            rw [ef]
            refine ⟨?_, hs3⟩
            rw [List.length_append]
            show (cs ++ r.1 ++ r2.1).length + 1 ≤ _
            omega⟩
      · refine r_aload_n dX4_readCompared_14 rfl ?_
        refine x_getI (c := 4) (x := (ctok (tk t r.2.2))) hE (fun _ _ => rfl) (fun _ => rfl) dX4_readCompared_15 fl_RX4_59 (Nat.le_of_ble_eq_true rfl) (k2.2.1.2.1) ?_
        refine r_bipush (v := (61 : Int32)) dX4_readCompared_18 (by decide) ?_
        refine r_icmp_ne (tgt := 43) dX4_readCompared_20 (by decide) (fun c2 => ?_) (fun c2 => ?_)
        · have hno : fin cs (cmpG t f p) = .ok (cs ++ r.1, r.2.2) := by
            unfold cmpG
            rw [e1]
            dsimp only
            rw [if_neg (fun z => z.2.elim (fun y => c1 ((ct_sg (tk_ok t r.2.2) (c := 60) (by decide)).mpr ⟨z.1, y⟩)) (fun y => c2 ((ct_sg (tk_ok t r.2.2) (c := 61) (by decide)).mpr ⟨z.1, y⟩)))]
            rfl
          refine r_vret dX4_readCompared_43 rfl ?_
          exact ⟨_, rfl, rfl, by show StX t σ0 (fin cs (cmpG t f p)) _; rw [hno]; exact k2⟩
        · have _h3 : (tk t r.2.2).1 = 3 := ((ct_sg (tk_ok t r.2.2) (c := 61) (by decide)).mp c2).1
          have _hw : (tk t r.2.2).2.2.1 = 61 := ((ct_sg (tk_ok t r.2.2) (c := 61) (by decide)).mp c2).2
          have hgt2 : r.2.2 < (tk t r.2.2).2.2.2 := tk_gt t r.2.2 hq (Or.inr _h3)
          have hs1 := ok_next (S := S) hT k2.2 (Or.inr (Or.inr _h3))
          have hq2 := (tk_le t r.2.2 hq).2.1
          refine r_aload_n dX4_readCompared_23 rfl ?_
          refine x_getI (c := 4) (x := (61 : Int32)) hE (fun _ _ => rfl) (fun _ => rfl) dX4_readCompared_24 fl_RX4_59 (Nat.le_of_ble_eq_true rfl) (k2.2.1.2.1.trans c2) ?_
          refine r_istore_n dX4_readCompared_27 (by decide) ?_
          refine r_aload_n dX4_readCompared_28 rfl ?_
          refine x_callV0 (c := 4) (i := 0) hE (fun _ _ => rfl) (Nat.le_of_ble_eq_true rfl) dX4_readCompared_29 mf_X4_next ml_RX4_32 (ok_X4_next (d := d - 1) hE hX (by omega) _ (k2.2.size hT) k2.2.place) rfl rfl rfl rfl (Nat.le_of_ble_eq_true rfl) (by omega) ?_
          refine r_aload_n dX4_readCompared_32 rfl ?_
          refine r_iload_n dX4_readCompared_33 rfl ?_
          refine x_call (c := 4) (i := 0) (As := [.int (nI o)]) hE (fun _ _ => rfl) (Nat.le_of_ble_eq_true rfl) dX4_readCompared_34 mf_X4_readSum ml_RX4_74 (hF (.ok (cs ++ r.1, (tk t r.2.2).2.2.2)) _ ⟨by have := k2.1; show (cs ++ r.1).length ≤ _; omega, hs1⟩) rfl rfl rfl rfl (Nat.le_of_ble_eq_true rfl) (by omega) (fun v2 s2 k3 => ?_)
          obtain ⟨rfl, k3⟩ := k3
          cases e2 : f (tk t r.2.2).2.2.2 with
          | error y =>
            have k4 : ErX σ0 y s2 := by
              have := k3
              unfold bd at this
              dsimp only at this
              rw [e2] at this
              exact this
            refine r_aload_n dX4_readCompared_37 rfl ?_
            refine r_iload_n dX4_readCompared_38 rfl ?_
            refine r_ineg dX4_readCompared_39 ?_
            refine x_callV0 (c := 4) (i := 0) hE (fun _ _ => rfl) (Nat.le_of_ble_eq_true rfl) dX4_readCompared_40 mf_X4_emit ml_RX4_62 (ok_X4_emit (d := d - 1) hE hX (by omega) _ _ k4.2.2.1) rfl rfl rfl rfl (Nat.le_of_ble_eq_true rfl) (by omega) ?_
            have ef : fin cs (cmpG t f p) = .error y := by
              unfold cmpG
              rw [e1]
              dsimp only
              rw [if_pos ⟨_h3, Or.inr _hw⟩, e2]
              rfl
            refine r_vret dX4_readCompared_43 rfl ?_
            exact ⟨_, rfl, rfl, by show StX t σ0 (fin cs (cmpG t f p)) _; rw [ef]; exact er_emit k4 _⟩
          | ok r2 =>
            have k4 : (cs ++ r.1 ++ r2.1).length ≤ r2.2.2 ∧ OkX t σ0 (cs ++ r.1 ++ r2.1) r2.2.2 s2 := by
              have := k3
              unfold bd at this
              dsimp only at this
              rw [e2] at this
              exact this
            have l1 := hL _ hq2 _ e2
            have m1 := (hM _ hq2).1 _ e2
            have l3 : (cs ++ r.1 ++ r2.1).length = (cs ++ r.1).length + r2.1.length := List.length_append
            have := k2.1
            refine r_aload_n dX4_readCompared_37 rfl ?_
            refine r_iload_n dX4_readCompared_38 rfl ?_
            refine r_ineg dX4_readCompared_39 ?_
            refine x_callV0 (c := 4) (i := 0) hE (fun _ _ => rfl) (Nat.le_of_ble_eq_true rfl) dX4_readCompared_40 mf_X4_emit ml_RX4_62 (ok_X4_emit (d := d - 1) hE hX (by omega) _ _ k4.2.cs) rfl rfl rfl rfl (Nat.le_of_ble_eq_true rfl) (by omega) ?_
            have hs3 := ok_emit (S := S) k4.2 (by omega) (-(61 : Int32))
            have ef : fin cs (cmpG t f p) = .ok (cs ++ r.1 ++ r2.1 ++ [-61], r2.2.2) := by
              unfold cmpG
              rw [e1]
              dsimp only
              rw [if_pos ⟨_h3, Or.inr _hw⟩, e2]
              show Except.ok (cs ++ (r.1 ++ r2.1 ++ [_]), r2.2.2) = _
              rw [if_neg (by rw [_hw]; decide), ← List.append_assoc, ← List.append_assoc]
            refine r_vret dX4_readCompared_43 rfl ?_
            exact ⟨_, rfl, rfl, by
              show StX t σ0 (fin cs (cmpG t f p)) _
              rw [ef]
              refine ⟨?_, hs3⟩
              rw [List.length_append]
              show (cs ++ r.1 ++ r2.1).length + 1 ≤ _
              omega⟩
set_option maxRecDepth 100000 in
set_option maxHeartbeats 2000000 in
theorem xm_readNot {g : GC} {B : hH} {am : XAd} {S : XSh} {t : TB} {σ0 : XSt} {o d : Nat} {rN add : Nat → Rs} (hE : XOk am S) (hX : GX g) (hT : XT σ0 t) (hd : 6 ≤ d) (ho : o ≤ 5) (hN : o < 5 → XMo g B am S (d - 1) t σ0 (o + 1) rN yX4_readNot cX4_readNot 2) (hC : XMo g B am S (d - 1) t σ0 o (cmpG t add) yX4_readCompared cX4_readCompared 3) (hLN : o < 5 → LenG t rN) (hMN : o < 5 → Mono t rN) : XMo g B am S d t σ0 o (notG t (decide (o < 5)) rN add) yX4_readNot cX4_readNot 2 := by
  have ht := hT.2.1
  intro x σ hs
  refine AM.of2 (own := RX4) (nm := "readNot") (L0 := [(0, .ref (am 4 0)), (1, .int (nI o))]) (by decide) rfl rfl (Nat.le_of_ble_eq_true rfl) rfl ?_
  cases x with
  | error y =>
    have k2 : ErX σ0 y σ := hs
    refine r_aload_n dX4_readNot_0 rfl ?_
    refine x_getI (c := 4) (x := 14) hE (fun _ _ => rfl) (fun _ => rfl) dX4_readNot_1 fl_RX4_59 (Nat.le_of_ble_eq_true rfl) (k2.2.1) ?_
    refine r_bipush (v := (11 : Int32)) dX4_readNot_4 (by decide) ?_
    refine r_icmp_eq (tgt := 17) dX4_readNot_6 (by decide) (fun c1 => ?_) (fun c1 => ?_)
    · exact absurd c1 (by decide)
    · refine r_aload_n dX4_readNot_9 rfl ?_
      refine r_iload_n dX4_readNot_10 rfl ?_
      refine x_call (c := 4) (i := 0) (As := [.int (nI o)]) hE (fun _ _ => rfl) (Nat.le_of_ble_eq_true rfl) dX4_readNot_11 mf_X4_readCompared ml_RX4_68 (hC (.error y) _ hs) rfl rfl rfl rfl (Nat.le_of_ble_eq_true rfl) (by omega) (fun v s1 k1 => ?_)
      obtain ⟨rfl, k1⟩ := k1
      refine r_goto (tgt := 46) dX4_readNot_14 (by decide) ?_
      refine r_vret dX4_readNot_46 rfl ?_
      exact ⟨_, rfl, rfl, k1⟩
  | ok a =>
    obtain ⟨cs, p⟩ := a
    have hp := hs.2.1.1
    have hq := (tk_le t p hp).2.1
    have hct := ct_lo (tk_ok t p) (k := 11) (by decide)
    rw [wtok_11] at hct
    refine r_aload_n dX4_readNot_0 rfl ?_
    refine x_getI (c := 4) (x := (ctok (tk t p))) hE (fun _ _ => rfl) (fun _ => rfl) dX4_readNot_1 fl_RX4_59 (Nat.le_of_ble_eq_true rfl) (hs.2.1.2.1) ?_
    refine r_bipush (v := (11 : Int32)) dX4_readNot_4 (by decide) ?_
    refine r_icmp_eq (tgt := 17) dX4_readNot_6 (by decide) (fun c1 => ?_) (fun c1 => ?_)
    · have hw := hct.mp c1
      have hgt2 : p < (tk t p).2.2.2 := tk_gt t p hp (Or.inl hw.1)
      refine r_iload_n dX4_readNot_17 rfl ?_
      refine r_iconst (v := (5 : Int32)) dX4_readNot_18 (by decide) ?_
      refine r_icmp_ge (tgt := 42) dX4_readNot_19 (by decide) (fun c2 => ?_) (fun c2 => ?_)
      · have h5 : 5 ≤ o := (nI_leI (a := 5) (by decide) (by omega)).mp c2
        refine r_aload_n dX4_readNot_42 rfl ?_
        refine x_callV0 (c := 4) (i := 0) hE (fun _ _ => rfl) (Nat.le_of_ble_eq_true rfl) dX4_readNot_43 mf_X4_fail ml_RX4_71 (ok_X4_fail (d := d - 1) hE hX (by omega) _) rfl rfl rfl rfl (Nat.le_of_ble_eq_true rfl) (by omega) ?_
        refine r_vret dX4_readNot_46 rfl ?_
        exact ⟨_, rfl, rfl, by
          show StX t σ0 (fin cs (notG t (decide (o < 5)) rN add p)) _
          rw [notG_eq, if_pos hw, decide_eq_false (by omega), if_neg (by decide)]
          exact ok_fail ht hs.2⟩
      · have h5 : o < 5 := by
          rcases Nat.lt_or_ge o 5 with q | q
          · exact q
          · exact absurd (nI_le (a := 5) q (by omega)) c2
        have hs1 := ok_next (S := S) hT hs.2 (Or.inl hw.1)
        refine r_aload_n dX4_readNot_22 rfl ?_
        refine x_callV0 (c := 4) (i := 0) hE (fun _ _ => rfl) (Nat.le_of_ble_eq_true rfl) dX4_readNot_23 mf_X4_next ml_RX4_32 (ok_X4_next (d := d - 1) hE hX (by omega) _ (hs.2.size hT) hs.2.place) rfl rfl rfl rfl (Nat.le_of_ble_eq_true rfl) (by omega) ?_
        refine r_aload_n dX4_readNot_26 rfl ?_
        refine r_iload_n dX4_readNot_27 rfl ?_
        refine r_iconst (v := (1 : Int32)) dX4_readNot_28 (by decide) ?_
        refine r_iadd dX4_readNot_29 ?_
        rw [nI_1]
        refine x_call (c := 4) (i := 0) (As := [.int (nI (o + 1))]) hE (fun _ _ => rfl) (Nat.le_of_ble_eq_true rfl) dX4_readNot_30 mf_X4_readNot ml_RX4_65 (hN h5 (.ok (cs, (tk t p).2.2.2)) _ ⟨by have := hs.1; show cs.length ≤ _; dsimp only at this; omega, hs1⟩) rfl rfl rfl rfl (Nat.le_of_ble_eq_true rfl) (by omega) (fun v s1 k1 => ?_)
        obtain ⟨rfl, k1⟩ := k1
        refine r_aload_n dX4_readNot_33 rfl ?_
        refine r_bipush (v := (-11 : Int32)) dX4_readNot_34 (by decide) ?_
        have ef : fin cs (notG t (decide (o < 5)) rN add p) = match rN (tk t p).2.2.2 with
              | .ok r => .ok (cs ++ r.1 ++ [-11], r.2.2)
              | .error x => .error x := by
          rw [notG_eq, if_pos hw, decide_eq_true h5, if_pos rfl]
          cases rN (tk t p).2.2.2 with
          | error y => rfl
          | ok r => show Except.ok (cs ++ (r.1 ++ [-11]), r.2.2) = _; rw [← List.append_assoc]
        cases e2 : rN (tk t p).2.2.2 with
        | error y =>
          have k2 : ErX σ0 y s1 := by
              have := k1
              unfold bd at this
              dsimp only at this
              rw [e2] at this
              exact this
          refine x_callV0 (c := 4) (i := 0) hE (fun _ _ => rfl) (Nat.le_of_ble_eq_true rfl) dX4_readNot_36 mf_X4_emit ml_RX4_62 (ok_X4_emit (d := d - 1) hE hX (by omega) _ _ k2.2.2.1) rfl rfl rfl rfl (Nat.le_of_ble_eq_true rfl) (by omega) ?_
          refine r_goto (tgt := 46) dX4_readNot_39 (by decide) ?_
          refine r_vret dX4_readNot_46 rfl ?_
          exact ⟨_, rfl, rfl, by
            show StX t σ0 (fin cs (notG t (decide (o < 5)) rN add p)) _
            rw [ef, e2]
            exact er_emit k2 _⟩
        | ok r =>
          have k2 : (cs ++ r.1).length ≤ r.2.2 ∧ OkX t σ0 (cs ++ r.1) r.2.2 s1 := by
              have := k1
              unfold bd at this
              dsimp only at this
              rw [e2] at this
              exact this
          have l1 := hLN h5 _ hq _ e2
          have m1 := (hMN h5 _ hq).1 _ e2
          have l3 : (cs ++ r.1).length = cs.length + r.1.length := List.length_append
          have l4 : cs.length ≤ p := hs.1
          refine x_callV0 (c := 4) (i := 0) hE (fun _ _ => rfl) (Nat.le_of_ble_eq_true rfl) dX4_readNot_36 mf_X4_emit ml_RX4_62 (ok_X4_emit (d := d - 1) hE hX (by omega) _ _ k2.2.cs) rfl rfl rfl rfl (Nat.le_of_ble_eq_true rfl) (by omega) ?_
          refine r_goto (tgt := 46) dX4_readNot_39 (by decide) ?_
          have hs3 := ok_emit (S := S) k2.2 (by omega) (-11 : Int32)
          refine r_vret dX4_readNot_46 rfl ?_
          exact ⟨_, rfl, rfl, by
            show StX t σ0 (fin cs (notG t (decide (o < 5)) rN add p)) _
            rw [ef, e2]
            refine ⟨?_, hs3⟩
            rw [List.length_append]
            show (cs ++ r.1).length + 1 ≤ _
            omega⟩
    · refine r_aload_n dX4_readNot_9 rfl ?_
      refine r_iload_n dX4_readNot_10 rfl ?_
      refine x_call (c := 4) (i := 0) (As := [.int (nI o)]) hE (fun _ _ => rfl) (Nat.le_of_ble_eq_true rfl) dX4_readNot_11 mf_X4_readCompared ml_RX4_68 (hC (.ok (cs, p)) _ hs) rfl rfl rfl rfl (Nat.le_of_ble_eq_true rfl) (by omega) (fun v s1 k1 => ?_)
      obtain ⟨rfl, k1⟩ := k1
      refine r_goto (tgt := 46) dX4_readNot_14 (by decide) ?_
      refine r_vret dX4_readNot_46 rfl ?_
      exact ⟨_, rfl, rfl, by
        show StX t σ0 (fin cs (notG t (decide (o < 5)) rN add p)) _
        rw [notG_eq, if_neg (fun z => c1 (hct.mpr z))]
        exact k1⟩
def tkG (t : TB) (w : Int32) (x : Sx2) : Sx2 := match x with
  | .error y => .error y
  | .ok a => if ctok (tk t a.2) = w then .ok (a.1, (tk t a.2).2.2.2) else .error (tk t a.2).2.1
set_option maxRecDepth 100000 in
set_option maxHeartbeats 2000000 in
theorem xm_take {g : GC} {B : hH} {am : XAd} {S : XSh} {t : TB} {σ0 : XSt} {d : Nat} {w : Int32} (hE : XOk am S) (hX : GX g) (hT : XT σ0 t) (hd : 6 ≤ d) (hw : ¬ w = 14) (x : Sx2) (σ : XSt) (hs : StX t σ0 x σ) : XC g B am S d yX4_take cX4_take 2 none [.ref (am 4 0), .int w] (fun v σ' => v = none ∧ StX t σ0 (tkG t w x) σ') σ := by
  have ht := hT.2.1
  refine AM.of2 (own := RX4) (nm := "take") (L0 := [(0, .ref (am 4 0)), (1, .int w)]) (by decide) rfl rfl (Nat.le_of_ble_eq_true rfl) rfl ?_
  cases x with
  | error y =>
    have k2 : ErX σ0 y σ := hs
    refine r_aload_n dX4_take_0 rfl ?_
    refine x_getI (c := 4) (x := 14) hE (fun _ _ => rfl) (fun _ => rfl) dX4_take_1 fl_RX4_59 (Nat.le_of_ble_eq_true rfl) (k2.2.1) ?_
    refine r_iload_n dX4_take_4 rfl ?_
    refine r_icmp_ne (tgt := 15) dX4_take_5 (by decide) (fun c1 => ?_) (fun c1 => ?_)
    · refine r_aload_n dX4_take_15 rfl ?_
      refine x_callV0 (c := 4) (i := 0) hE (fun _ _ => rfl) (Nat.le_of_ble_eq_true rfl) dX4_take_16 mf_X4_fail ml_RX4_71 (ok_X4_fail (d := d - 1) hE hX (by omega) _) rfl rfl rfl rfl (Nat.le_of_ble_eq_true rfl) (by omega) ?_
      refine r_vret dX4_take_19 rfl ?_
      exact ⟨_, rfl, rfl, er_failX k2⟩
    · exact absurd c1.symm hw
  | ok a =>
    obtain ⟨cs, p⟩ := a
    have hp := hs.2.1.1
    have hl : cs.length ≤ p := hs.1
    refine r_aload_n dX4_take_0 rfl ?_
    refine x_getI (c := 4) (x := (ctok (tk t p))) hE (fun _ _ => rfl) (fun _ => rfl) dX4_take_1 fl_RX4_59 (Nat.le_of_ble_eq_true rfl) (hs.2.1.2.1) ?_
    refine r_iload_n dX4_take_4 rfl ?_
    refine r_icmp_ne (tgt := 15) dX4_take_5 (by decide) (fun c1 => ?_) (fun c1 => ?_)
    · refine r_aload_n dX4_take_15 rfl ?_
      refine x_callV0 (c := 4) (i := 0) hE (fun _ _ => rfl) (Nat.le_of_ble_eq_true rfl) dX4_take_16 mf_X4_fail ml_RX4_71 (ok_X4_fail (d := d - 1) hE hX (by omega) _) rfl rfl rfl rfl (Nat.le_of_ble_eq_true rfl) (by omega) ?_
      refine r_vret dX4_take_19 rfl ?_
      exact ⟨_, rfl, rfl, by show StX t σ0 (if ctok (tk t p) = w then _ else _) _; rw [if_neg c1]; exact ok_fail ht hs.2⟩
    · refine r_aload_n dX4_take_8 rfl ?_
      refine x_callV0 (c := 4) (i := 0) hE (fun _ _ => rfl) (Nat.le_of_ble_eq_true rfl) dX4_take_9 mf_X4_next ml_RX4_32 (ok_X4_next (d := d - 1) hE hX (by omega) _ (hs.2.size hT) hs.2.place) rfl rfl rfl rfl (Nat.le_of_ble_eq_true rfl) (by omega) ?_
      refine r_goto (tgt := 19) dX4_take_12 (by decide) ?_
      refine r_vret dX4_take_19 rfl ?_
      exact ⟨_, rfl, rfl, by
        show StX t σ0 (if ctok (tk t p) = w then _ else _) _
        rw [if_pos c1]
        exact ⟨by have := (tk_le t p hp).2.2; show cs.length ≤ (tk t p).2.2.2; omega, ok_next' hT hs.2 (ct_14 (tk_ok t p) (fun z => hw (by rw [← c1, z])))⟩⟩
