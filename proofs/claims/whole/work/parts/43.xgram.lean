abbrev XMo (g : GC) (B : hH) (am : XAd) (S : XSh) (d : Nat) (t : TB) (σ0 : XSt) (o : Nat) (f : Nat → Rs) (y : MethodName) (cc : ByteArray) (maxL : Nat) : Prop := ∀ x σ, StX t σ0 x σ → XC g B am S d y cc maxL none [.ref (am 4 0), .int (nI o)] (fun v σ' => v = none ∧ StX t σ0 (bd x f) σ') σ
theorem op_or {t : TB} {p : Nat} : (ctok (tk t p) = 9 → opOr (tk t p) = some (-9)) ∧ (¬ ctok (tk t p) = 9 → opOr (tk t p) = none) := by
  have h := ct_lo (tk_ok t p) (k := 9) (by decide)
  rw [wtok_9] at h
  unfold opOr
  exact ⟨fun z => if_pos (h.mp z), fun z => if_neg (fun y => z (h.mpr y))⟩
theorem op_and {t : TB} {p : Nat} : (ctok (tk t p) = 10 → opAnd (tk t p) = some (-10)) ∧ (¬ ctok (tk t p) = 10 → opAnd (tk t p) = none) := by
  have h := ct_lo (tk_ok t p) (k := 10) (by decide)
  rw [wtok_10] at h
  unfold opAnd
  exact ⟨fun z => if_pos (h.mp z), fun z => if_neg (fun y => z (h.mpr y))⟩
theorem op_mul {t : TB} {p : Nat} : (ctok (tk t p) = 42 → opMul (tk t p) = some (-42)) ∧ (¬ ctok (tk t p) = 42 → opMul (tk t p) = none) := by
  have h := ct_sg (tk_ok t p) (c := 42) (by decide)
  unfold opMul
  exact ⟨fun z => if_pos (h.mp z), fun z => if_neg (fun y => z (h.mpr y))⟩
theorem op_add {t : TB} {p : Nat} : ((ctok (tk t p) = 43 ∨ ctok (tk t p) = 45) → opAdd (tk t p) = some (-(ctok (tk t p)))) ∧ (¬ ctok (tk t p) = 43 → ¬ ctok (tk t p) = 45 → opAdd (tk t p) = none) := by
  have h := ct_sg (tk_ok t p) (c := 43) (by decide)
  have h2 := ct_sg (tk_ok t p) (c := 45) (by decide)
  rw [show Int32.toInt64 43 = 43 from rfl] at h
  rw [show Int32.toInt64 45 = 45 from rfl] at h2
  unfold opAdd
  constructor
  · intro z
    by_cases q : ctok (tk t p) = 43
    · rw [if_pos (h.mp q), q]
    · have q2 := Or.resolve_left z q
      rw [if_neg (fun y => q (h.mpr y)), if_pos (h2.mp q2), q2]
  · intro z1 z2
    rw [if_neg (fun y => z1 (h.mpr y)), if_neg (fun y => z2 (h2.mpr y))]
theorem tk_lt {t : TB} {p : Nat} (hp : p ≤ t.2) (h : (tk t p).1 = 1 ∨ (tk t p).1 = 2 ∨ (tk t p).1 = 3) : p < t.2 := by
  have h1 := (tk_le t p hp).2.1
  rcases h with h | h | h
  · exact Nat.lt_of_lt_of_le (tk_gt t p hp (Or.inl h)) h1
  · exact Nat.lt_of_lt_of_le (tk_gt2 t p h) h1
  · exact Nat.lt_of_lt_of_le (tk_gt t p hp (Or.inr h)) h1
theorem fin_loop {t : TB} {op : Tk → Option Int32} {f : Nat → Rs} {cs : List Int32} {p : Nat} : bd (.ok (cs, p)) (chainG t op f) = match f p with
    | .error y => .error y
    | .ok r => fin cs (loopG t op f 162 r.1 r.2.1 r.2.2) := by
  show fin cs (chainG t op f p) = _
  unfold chainG
  cases f p <;> rfl
set_option maxRecDepth 100000 in
set_option maxHeartbeats 2000000 in
theorem xe_readTerm {g : GC} {B : hH} {am : XAd} {S : XSh} {t : TB} {σ0 : XSt} {o d m y : Nat} {x : Sx2} (hE : XOk am S) {σ : XSt} (hx : x = .error y) (h : ErX σ0 y σ) : XW g B am S RX4 cX4_readTerm 3 none "readTerm" d (fun v σ' => v = none ∧ StX t σ0 x σ') 7 [(2, .int (nI m)), (0, .ref (am 4 0)), (1, .int (nI o))] [] σ := by
  subst hx
  refine r_iload_n dX4_readTerm_7 rfl ?_
  refine r_sipush (v := (160 : Int32)) dX4_readTerm_8 (by decide) ?_
  refine r_icmp_ge (tgt := 44) dX4_readTerm_11 (by decide) (fun c => ?_) (fun c => ?_)
  · refine r_vret dX4_readTerm_44 rfl ?_
    exact ⟨_, rfl, rfl, h⟩
  · refine r_aload_n dX4_readTerm_14 rfl ?_
    refine x_getI (c := 4) (x := 14) hE (fun _ _ => rfl) (fun _ => rfl) dX4_readTerm_15 fl_RX4_59 (Nat.le_of_ble_eq_true rfl) (h.2.1) ?_
    refine r_bipush (v := (42 : Int32)) dX4_readTerm_18 (by decide) ?_
    refine r_icmp_ne (tgt := 44) dX4_readTerm_20 (by decide) (fun c1 => ?_) (fun c1 => ?_)
    · refine r_vret dX4_readTerm_44 rfl ?_
      exact ⟨_, rfl, rfl, h⟩
    · exact absurd c1 (by decide)
set_option maxRecDepth 100000 in
set_option maxHeartbeats 2000000 in
theorem xl_readTerm {g : GC} {B : hH} {am : XAd} {S : XSh} {t : TB} {σ0 : XSt} {o d : Nat} {f : Nat → Rs} (hE : XOk am S) (hX : GX g) (hT : XT σ0 t) (hd : 6 ≤ d) (hF : XMo g B am S (d - 1) t σ0 o f yX4_readOne cX4_readOne 2) (hL : LenG t f) (hM : Mono t f) : ∀ (n : Nat) (cs cc : List Int32) (e : Ev) (p m : Nat) (σ : XSt), m ≤ p → t.2 - p < n → (cs ++ cc).length ≤ p → OkX t σ0 (cs ++ cc) p σ → XW g B am S RX4 cX4_readTerm 3 none "readTerm" d (fun v σ' => v = none ∧ StX t σ0 (fin cs (loopG t opMul f n cc e p)) σ') 7 [(2, .int (nI m)), (0, .ref (am 4 0)), (1, .int (nI o))] [] σ := by
  have ht := hT.2.1
  intro n
  induction n with
  | zero => intro cs cc e p m σ _ h; exact absurd h (Nat.not_lt_zero _)
  | succ n ih =>
    intro cs cc e p m σ hm hn hlen hs
    have hp := hs.1.1
    have hq := (tk_le t p hp).2.1
    refine r_iload_n dX4_readTerm_7 rfl ?_
    refine r_sipush (v := (160 : Int32)) dX4_readTerm_8 (by decide) ?_
    refine r_icmp_ge (tgt := 44) dX4_readTerm_11 (by decide) (fun c => ?_) (fun c => ?_)
    · have h160 : 160 ≤ m := (nI_leI (a := 160) (by omega) (by omega)).mp c
      have hno : opMul (tk t p) = none := op_mul.2 (fun z => by
        have := tk_lt hp (Or.inr (Or.inr ((ct_sg (tk_ok t p) (c := 42) (by decide)).mp z).1))
        omega)
      refine r_vret dX4_readTerm_44 rfl ?_
      exact ⟨_, rfl, rfl, by rw [loopG, hno]; exact ⟨hlen, hs⟩⟩
    · refine r_aload_n dX4_readTerm_14 rfl ?_
      refine x_getI (c := 4) (x := (ctok (tk t p))) hE (fun _ _ => rfl) (fun _ => rfl) dX4_readTerm_15 fl_RX4_59 (Nat.le_of_ble_eq_true rfl) (hs.1.2.1) ?_
      refine r_bipush (v := (42 : Int32)) dX4_readTerm_18 (by decide) ?_
      refine r_icmp_ne (tgt := 44) dX4_readTerm_20 (by decide) (fun c1 => ?_) (fun c1 => ?_)
      · refine r_vret dX4_readTerm_44 rfl ?_
        exact ⟨_, rfl, rfl, by rw [loopG, op_mul.2 c1]; exact ⟨hlen, hs⟩⟩
      · have _h3 := ((ct_sg (tk_ok t p) (c := 42) (by decide)).mp c1).1
        have hop := op_mul.1 c1
        have hgt := tk_lt hp (Or.inr (Or.inr _h3))
        have hgt2 : p < (tk t p).2.2.2 := tk_gt t p hp (Or.inr _h3)
        have hs1 := ok_next (S := S) hT hs (Or.inr (Or.inr _h3))
        refine r_aload_n dX4_readTerm_23 rfl ?_
        refine x_callV0 (c := 4) (i := 0) hE (fun _ _ => rfl) (Nat.le_of_ble_eq_true rfl) dX4_readTerm_24 mf_X4_next ml_RX4_32 (ok_X4_next (d := d - 1) hE hX (by omega) _ (hs.size hT) hs.place) rfl rfl rfl rfl (Nat.le_of_ble_eq_true rfl) (by omega) ?_
        refine r_aload_n dX4_readTerm_27 rfl ?_
        refine r_iload_n dX4_readTerm_28 rfl ?_
        refine x_call (c := 4) (i := 0) (As := [.int (nI o)]) hE (fun _ _ => rfl) (Nat.le_of_ble_eq_true rfl) dX4_readTerm_29 mf_X4_readOne ml_RX4_80 (hF (.ok (cs ++ cc, (tk t p).2.2.2)) _ ⟨by show (cs ++ cc).length ≤ _; omega, hs1⟩) rfl rfl rfl rfl (Nat.le_of_ble_eq_true rfl) (by omega) (fun v s1 k1 => ?_)
        obtain ⟨rfl, k1⟩ := k1
        rw [loopG, hop]
        dsimp only
        cases e2 : f (tk t p).2.2.2 with
        | error y =>
          have k2 : ErX σ0 y s1 := by
            have := k1
            unfold bd at this
            dsimp only at this
            rw [e2] at this
            exact this
          refine r_aload_n dX4_readTerm_32 rfl ?_
          refine r_bipush (v := (-42 : Int32)) dX4_readTerm_33 (by decide) ?_
          refine x_callV0 (c := 4) (i := 0) hE (fun _ _ => rfl) (Nat.le_of_ble_eq_true rfl) dX4_readTerm_35 mf_X4_emit ml_RX4_62 (ok_X4_emit (d := d - 1) hE hX (by omega) _ _ k2.2.2.1) rfl rfl rfl rfl (Nat.le_of_ble_eq_true rfl) (by omega) ?_
          refine r_iinc2 (w := 1) dX4_readTerm_38 rfl (by decide) (by decide) ?_
          refine r_goto (tgt := 7) dX4_readTerm_41 (by decide) ?_
          refine r_loc (L' := [(2, .int (nI (m + 1))), (0, .ref (am 4 0)), (1, .int (nI o))]) [0, 1, 2] (by rw [← nI_1]; rfl) ?_
          exact xe_readTerm hE rfl (er_emit k2 _)
        | ok r =>
          have k2 : (cs ++ cc ++ r.1).length ≤ r.2.2 ∧ OkX t σ0 (cs ++ cc ++ r.1) r.2.2 s1 := by
            have := k1
            unfold bd at this
            dsimp only at this
            rw [e2] at this
            exact this
          have l1 := hL _ hq _ e2
          have m1 := (hM _ hq).1 _ e2
          have l3 : (cs ++ cc ++ r.1).length = (cs ++ cc).length + r.1.length := List.length_append
          refine r_aload_n dX4_readTerm_32 rfl ?_
          refine r_bipush (v := (-42 : Int32)) dX4_readTerm_33 (by decide) ?_
          refine x_callV0 (c := 4) (i := 0) hE (fun _ _ => rfl) (Nat.le_of_ble_eq_true rfl) dX4_readTerm_35 mf_X4_emit ml_RX4_62 (ok_X4_emit (d := d - 1) hE hX (by omega) _ _ k2.2.cs) rfl rfl rfl rfl (Nat.le_of_ble_eq_true rfl) (by omega) ?_
          have hs3 := ok_emit (S := S) k2.2 (by omega) ((-42 : Int32))
          rw [List.append_assoc, List.append_assoc] at hs3
          refine r_iinc2 (w := 1) dX4_readTerm_38 rfl (by decide) (by decide) ?_
          refine r_goto (tgt := 7) dX4_readTerm_41 (by decide) ?_
          refine r_loc (L' := [(2, .int (nI (m + 1))), (0, .ref (am 4 0)), (1, .int (nI o))]) [0, 1, 2] (by rw [← nI_1]; rfl) ?_
          rw [← List.append_assoc cc] at hs3
          exact ih cs (cc ++ r.1 ++ [(-42 : Int32)]) _ _ (m + 1) _ (by omega) (by omega) (by
            rw [← List.append_assoc, ← List.append_assoc, List.length_append]
            show (cs ++ cc ++ r.1).length + 1 ≤ _
            omega) hs3
set_option maxRecDepth 100000 in
set_option maxHeartbeats 2000000 in
theorem xm_readTerm {g : GC} {B : hH} {am : XAd} {S : XSh} {t : TB} {σ0 : XSt} {o d : Nat} {f : Nat → Rs} (hE : XOk am S) (hX : GX g) (hT : XT σ0 t) (hd : 6 ≤ d) (hF : XMo g B am S (d - 1) t σ0 o f yX4_readOne cX4_readOne 2) (hL : LenG t f) (hM : Mono t f) : XMo g B am S d t σ0 o (chainG t opMul f) yX4_readTerm cX4_readTerm 3 := by
  have ht := hT.2.1
  intro x σ hs
  refine AM.of2 (own := RX4) (nm := "readTerm") (L0 := [(0, .ref (am 4 0)), (1, .int (nI o))]) (by decide) rfl rfl (Nat.le_of_ble_eq_true rfl) rfl ?_
  refine r_aload_n dX4_readTerm_0 rfl ?_
  refine r_iload_n dX4_readTerm_1 rfl ?_
  refine x_call (c := 4) (i := 0) (As := [.int (nI o)]) hE (fun _ _ => rfl) (Nat.le_of_ble_eq_true rfl) dX4_readTerm_2 mf_X4_readOne ml_RX4_80 (hF x _ hs) rfl rfl rfl rfl (Nat.le_of_ble_eq_true rfl) (by omega) (fun v s1 k1 => ?_)
  obtain ⟨rfl, k1⟩ := k1
  refine r_iconst (v := (0 : Int32)) dX4_readTerm_5 (by decide) ?_
  refine r_istore_n dX4_readTerm_6 (by decide) ?_
  cases x with
  | error y => exact xe_readTerm (m := 0) hE rfl k1
  | ok a =>
    obtain ⟨cs, p⟩ := a
    have hp := hs.2.1.1
    rw [fin_loop]
    cases e1 : f p with
    | error y =>
      have k2 : ErX σ0 y s1 := by
        have := k1
        unfold bd at this
        dsimp only at this
        rw [e1] at this
        exact this
      exact xe_readTerm (m := 0) hE rfl k2
    | ok r =>
      have k2 : (cs ++ r.1).length ≤ r.2.2 ∧ OkX t σ0 (cs ++ r.1) r.2.2 s1 := by
        have := k1
        unfold bd at this
        dsimp only at this
        rw [e1] at this
        exact this
      exact xl_readTerm hE hX hT hd hF hL hM 162 cs r.1 r.2.1 r.2.2 0 _ (Nat.zero_le _) (by omega) k2.1 k2.2
set_option maxRecDepth 100000 in
set_option maxHeartbeats 2000000 in
theorem xe_readSum {g : GC} {B : hH} {am : XAd} {S : XSh} {t : TB} {σ0 : XSt} {o d m y : Nat} {x : Sx2} (hE : XOk am S) {σ : XSt} (hx : x = .error y) (h : ErX σ0 y σ) : XW g B am S RX4 cX4_readSum 4 none "readSum" d (fun v σ' => v = none ∧ StX t σ0 x σ') 7 [(2, .int (nI m)), (0, .ref (am 4 0)), (1, .int (nI o))] [] σ := by
  subst hx
  refine r_iload_n dX4_readSum_7 rfl ?_
  refine r_sipush (v := (160 : Int32)) dX4_readSum_8 (by decide) ?_
  refine r_icmp_ge (tgt := 58) dX4_readSum_11 (by decide) (fun c => ?_) (fun c => ?_)
  · refine r_vret dX4_readSum_58 rfl ?_
    exact ⟨_, rfl, rfl, h⟩
  · refine r_aload_n dX4_readSum_14 rfl ?_
    refine x_getI (c := 4) (x := 14) hE (fun _ _ => rfl) (fun _ => rfl) dX4_readSum_15 fl_RX4_59 (Nat.le_of_ble_eq_true rfl) (h.2.1) ?_
    refine r_bipush (v := (43 : Int32)) dX4_readSum_18 (by decide) ?_
    refine r_icmp_eq (tgt := 32) dX4_readSum_20 (by decide) (fun c1 => ?_) (fun c1 => ?_)
    · exact absurd c1 (by decide)
    · refine r_aload_n dX4_readSum_23 rfl ?_
      refine x_getI (c := 4) (x := 14) hE (fun _ _ => rfl) (fun _ => rfl) dX4_readSum_24 fl_RX4_59 (Nat.le_of_ble_eq_true rfl) (h.2.1) ?_
      refine r_bipush (v := (45 : Int32)) dX4_readSum_27 (by decide) ?_
      refine r_icmp_ne (tgt := 58) dX4_readSum_29 (by decide) (fun c2 => ?_) (fun c2 => ?_)
      · refine r_vret dX4_readSum_58 rfl ?_
        exact ⟨_, rfl, rfl, h⟩
      · exact absurd c2 (by decide)
set_option maxRecDepth 100000 in
set_option maxHeartbeats 2000000 in
theorem xl_readSum {g : GC} {B : hH} {am : XAd} {S : XSh} {t : TB} {σ0 : XSt} {o d : Nat} {f : Nat → Rs} (hE : XOk am S) (hX : GX g) (hT : XT σ0 t) (hd : 6 ≤ d) (hF : XMo g B am S (d - 1) t σ0 o f yX4_readTerm cX4_readTerm 3) (hL : LenG t f) (hM : Mono t f) : ∀ (n : Nat) (cs cc : List Int32) (e : Ev) (p m : Nat) (σ : XSt), m ≤ p → t.2 - p < n → (cs ++ cc).length ≤ p → OkX t σ0 (cs ++ cc) p σ → XW g B am S RX4 cX4_readSum 4 none "readSum" d (fun v σ' => v = none ∧ StX t σ0 (fin cs (loopG t opAdd f n cc e p)) σ') 7 [(2, .int (nI m)), (0, .ref (am 4 0)), (1, .int (nI o))] [] σ := by
  have ht := hT.2.1
  intro n
  induction n with
  | zero => intro cs cc e p m σ _ h; exact absurd h (Nat.not_lt_zero _)
  | succ n ih =>
    intro cs cc e p m σ hm hn hlen hs
    have hp := hs.1.1
    have hq := (tk_le t p hp).2.1
    refine r_iload_n dX4_readSum_7 rfl ?_
    refine r_sipush (v := (160 : Int32)) dX4_readSum_8 (by decide) ?_
    refine r_icmp_ge (tgt := 58) dX4_readSum_11 (by decide) (fun c => ?_) (fun c => ?_)
    · have h160 : 160 ≤ m := (nI_leI (a := 160) (by omega) (by omega)).mp c
      have hno : opAdd (tk t p) = none := op_add.2 (fun z => by
        have := tk_lt hp (Or.inr (Or.inr ((ct_sg (tk_ok t p) (c := 43) (by decide)).mp z).1))
        omega) (fun z => by
        have := tk_lt hp (Or.inr (Or.inr ((ct_sg (tk_ok t p) (c := 45) (by decide)).mp z).1))
        omega)
      refine r_vret dX4_readSum_58 rfl ?_
      exact ⟨_, rfl, rfl, by rw [loopG, hno]; exact ⟨hlen, hs⟩⟩
    · refine r_aload_n dX4_readSum_14 rfl ?_
      refine x_getI (c := 4) (x := (ctok (tk t p))) hE (fun _ _ => rfl) (fun _ => rfl) dX4_readSum_15 fl_RX4_59 (Nat.le_of_ble_eq_true rfl) (hs.1.2.1) ?_
      refine r_bipush (v := (43 : Int32)) dX4_readSum_18 (by decide) ?_
      refine r_icmp_eq (tgt := 32) dX4_readSum_20 (by decide) (fun c1 => ?_) (fun c1 => ?_)
      · have _h3 := ((ct_sg (tk_ok t p) (c := 43) (by decide)).mp c1).1
        have hop := op_add.1 (Or.inl c1)
        refine r_aload_n dX4_readSum_32 rfl ?_
        refine x_getI (c := 4) (x := (ctok (tk t p))) hE (fun _ _ => rfl) (fun _ => rfl) dX4_readSum_33 fl_RX4_59 (Nat.le_of_ble_eq_true rfl) (hs.1.2.1) ?_
        refine r_istore_n dX4_readSum_36 (by decide) ?_
        have hgt := tk_lt hp (Or.inr (Or.inr _h3))
        have hgt2 : p < (tk t p).2.2.2 := tk_gt t p hp (Or.inr _h3)
        have hs1 := ok_next (S := S) hT hs (Or.inr (Or.inr _h3))
        refine r_aload_n dX4_readSum_37 rfl ?_
        refine x_callV0 (c := 4) (i := 0) hE (fun _ _ => rfl) (Nat.le_of_ble_eq_true rfl) dX4_readSum_38 mf_X4_next ml_RX4_32 (ok_X4_next (d := d - 1) hE hX (by omega) _ (hs.size hT) hs.place) rfl rfl rfl rfl (Nat.le_of_ble_eq_true rfl) (by omega) ?_
        refine r_aload_n dX4_readSum_41 rfl ?_
        refine r_iload_n dX4_readSum_42 rfl ?_
        refine x_call (c := 4) (i := 0) (As := [.int (nI o)]) hE (fun _ _ => rfl) (Nat.le_of_ble_eq_true rfl) dX4_readSum_43 mf_X4_readTerm ml_RX4_77 (hF (.ok (cs ++ cc, (tk t p).2.2.2)) _ ⟨by show (cs ++ cc).length ≤ _; omega, hs1⟩) rfl rfl rfl rfl (Nat.le_of_ble_eq_true rfl) (by omega) (fun v s1 k1 => ?_)
        obtain ⟨rfl, k1⟩ := k1
        rw [loopG, hop]
        dsimp only
        cases e2 : f (tk t p).2.2.2 with
        | error y =>
          have k2 : ErX σ0 y s1 := by
            have := k1
            unfold bd at this
            dsimp only at this
            rw [e2] at this
            exact this
          refine r_aload_n dX4_readSum_46 rfl ?_
          refine r_iload_n dX4_readSum_47 rfl ?_
          refine r_ineg dX4_readSum_48 ?_
          refine x_callV0 (c := 4) (i := 0) hE (fun _ _ => rfl) (Nat.le_of_ble_eq_true rfl) dX4_readSum_49 mf_X4_emit ml_RX4_62 (ok_X4_emit (d := d - 1) hE hX (by omega) _ _ k2.2.2.1) rfl rfl rfl rfl (Nat.le_of_ble_eq_true rfl) (by omega) ?_
          refine r_iinc2 (w := 1) dX4_readSum_52 rfl (by decide) (by decide) ?_
          refine r_goto (tgt := 7) dX4_readSum_55 (by decide) ?_
          refine r_loc (L' := [(2, .int (nI (m + 1))), (0, .ref (am 4 0)), (1, .int (nI o))]) [0, 2, 3] (by rw [← nI_1]; rfl) ?_
          exact xe_readSum hE rfl (er_emit k2 _)
        | ok r =>
          have k2 : (cs ++ cc ++ r.1).length ≤ r.2.2 ∧ OkX t σ0 (cs ++ cc ++ r.1) r.2.2 s1 := by
            have := k1
            unfold bd at this
            dsimp only at this
            rw [e2] at this
            exact this
          have l1 := hL _ hq _ e2
          have m1 := (hM _ hq).1 _ e2
          have l3 : (cs ++ cc ++ r.1).length = (cs ++ cc).length + r.1.length := List.length_append
          refine r_aload_n dX4_readSum_46 rfl ?_
          refine r_iload_n dX4_readSum_47 rfl ?_
          refine r_ineg dX4_readSum_48 ?_
          refine x_callV0 (c := 4) (i := 0) hE (fun _ _ => rfl) (Nat.le_of_ble_eq_true rfl) dX4_readSum_49 mf_X4_emit ml_RX4_62 (ok_X4_emit (d := d - 1) hE hX (by omega) _ _ k2.2.cs) rfl rfl rfl rfl (Nat.le_of_ble_eq_true rfl) (by omega) ?_
          have hs3 := ok_emit (S := S) k2.2 (by omega) (-(ctok (tk t p)))
          rw [List.append_assoc, List.append_assoc] at hs3
          refine r_iinc2 (w := 1) dX4_readSum_52 rfl (by decide) (by decide) ?_
          refine r_goto (tgt := 7) dX4_readSum_55 (by decide) ?_
          refine r_loc (L' := [(2, .int (nI (m + 1))), (0, .ref (am 4 0)), (1, .int (nI o))]) [0, 2, 3] (by rw [← nI_1]; rfl) ?_
          rw [← List.append_assoc cc] at hs3
          exact ih cs (cc ++ r.1 ++ [-(ctok (tk t p))]) _ _ (m + 1) _ (by omega) (by omega) (by
            rw [← List.append_assoc, ← List.append_assoc, List.length_append]
            show (cs ++ cc ++ r.1).length + 1 ≤ _
            omega) hs3
      · refine r_aload_n dX4_readSum_23 rfl ?_
        refine x_getI (c := 4) (x := (ctok (tk t p))) hE (fun _ _ => rfl) (fun _ => rfl) dX4_readSum_24 fl_RX4_59 (Nat.le_of_ble_eq_true rfl) (hs.1.2.1) ?_
        refine r_bipush (v := (45 : Int32)) dX4_readSum_27 (by decide) ?_
        refine r_icmp_ne (tgt := 58) dX4_readSum_29 (by decide) (fun c2 => ?_) (fun c2 => ?_)
        · refine r_vret dX4_readSum_58 rfl ?_
          exact ⟨_, rfl, rfl, by rw [loopG, op_add.2 c1 c2]; exact ⟨hlen, hs⟩⟩
        · have _h3 := ((ct_sg (tk_ok t p) (c := 45) (by decide)).mp c2).1
          have hop := op_add.1 (Or.inr c2)
          refine r_aload_n dX4_readSum_32 rfl ?_
          refine x_getI (c := 4) (x := (ctok (tk t p))) hE (fun _ _ => rfl) (fun _ => rfl) dX4_readSum_33 fl_RX4_59 (Nat.le_of_ble_eq_true rfl) (hs.1.2.1) ?_
          refine r_istore_n dX4_readSum_36 (by decide) ?_
          have hgt := tk_lt hp (Or.inr (Or.inr _h3))
          have hgt2 : p < (tk t p).2.2.2 := tk_gt t p hp (Or.inr _h3)
          have hs1 := ok_next (S := S) hT hs (Or.inr (Or.inr _h3))
          refine r_aload_n dX4_readSum_37 rfl ?_
          refine x_callV0 (c := 4) (i := 0) hE (fun _ _ => rfl) (Nat.le_of_ble_eq_true rfl) dX4_readSum_38 mf_X4_next ml_RX4_32 (ok_X4_next (d := d - 1) hE hX (by omega) _ (hs.size hT) hs.place) rfl rfl rfl rfl (Nat.le_of_ble_eq_true rfl) (by omega) ?_
          refine r_aload_n dX4_readSum_41 rfl ?_
          refine r_iload_n dX4_readSum_42 rfl ?_
          refine x_call (c := 4) (i := 0) (As := [.int (nI o)]) hE (fun _ _ => rfl) (Nat.le_of_ble_eq_true rfl) dX4_readSum_43 mf_X4_readTerm ml_RX4_77 (hF (.ok (cs ++ cc, (tk t p).2.2.2)) _ ⟨by show (cs ++ cc).length ≤ _; omega, hs1⟩) rfl rfl rfl rfl (Nat.le_of_ble_eq_true rfl) (by omega) (fun v s1 k1 => ?_)
          obtain ⟨rfl, k1⟩ := k1
          rw [loopG, hop]
          dsimp only
          cases e2 : f (tk t p).2.2.2 with
          | error y =>
            have k2 : ErX σ0 y s1 := by
              have := k1
              unfold bd at this
              dsimp only at this
              rw [e2] at this
              exact this
            refine r_aload_n dX4_readSum_46 rfl ?_
            refine r_iload_n dX4_readSum_47 rfl ?_
            refine r_ineg dX4_readSum_48 ?_
            refine x_callV0 (c := 4) (i := 0) hE (fun _ _ => rfl) (Nat.le_of_ble_eq_true rfl) dX4_readSum_49 mf_X4_emit ml_RX4_62 (ok_X4_emit (d := d - 1) hE hX (by omega) _ _ k2.2.2.1) rfl rfl rfl rfl (Nat.le_of_ble_eq_true rfl) (by omega) ?_
            refine r_iinc2 (w := 1) dX4_readSum_52 rfl (by decide) (by decide) ?_
            refine r_goto (tgt := 7) dX4_readSum_55 (by decide) ?_
            refine r_loc (L' := [(2, .int (nI (m + 1))), (0, .ref (am 4 0)), (1, .int (nI o))]) [0, 2, 3] (by rw [← nI_1]; rfl) ?_
            exact xe_readSum hE rfl (er_emit k2 _)
          | ok r =>
            have k2 : (cs ++ cc ++ r.1).length ≤ r.2.2 ∧ OkX t σ0 (cs ++ cc ++ r.1) r.2.2 s1 := by
              have := k1
              unfold bd at this
              dsimp only at this
              rw [e2] at this
              exact this
            have l1 := hL _ hq _ e2
            have m1 := (hM _ hq).1 _ e2
            have l3 : (cs ++ cc ++ r.1).length = (cs ++ cc).length + r.1.length := List.length_append
            refine r_aload_n dX4_readSum_46 rfl ?_
            refine r_iload_n dX4_readSum_47 rfl ?_
            refine r_ineg dX4_readSum_48 ?_
            refine x_callV0 (c := 4) (i := 0) hE (fun _ _ => rfl) (Nat.le_of_ble_eq_true rfl) dX4_readSum_49 mf_X4_emit ml_RX4_62 (ok_X4_emit (d := d - 1) hE hX (by omega) _ _ k2.2.cs) rfl rfl rfl rfl (Nat.le_of_ble_eq_true rfl) (by omega) ?_
            have hs3 := ok_emit (S := S) k2.2 (by omega) (-(ctok (tk t p)))
            rw [List.append_assoc, List.append_assoc] at hs3
            refine r_iinc2 (w := 1) dX4_readSum_52 rfl (by decide) (by decide) ?_
            refine r_goto (tgt := 7) dX4_readSum_55 (by decide) ?_
            refine r_loc (L' := [(2, .int (nI (m + 1))), (0, .ref (am 4 0)), (1, .int (nI o))]) [0, 2, 3] (by rw [← nI_1]; rfl) ?_
            rw [← List.append_assoc cc] at hs3
            exact ih cs (cc ++ r.1 ++ [-(ctok (tk t p))]) _ _ (m + 1) _ (by omega) (by omega) (by
              rw [← List.append_assoc, ← List.append_assoc, List.length_append]
              show (cs ++ cc ++ r.1).length + 1 ≤ _
              omega) hs3
set_option maxRecDepth 100000 in
set_option maxHeartbeats 2000000 in
theorem xm_readSum {g : GC} {B : hH} {am : XAd} {S : XSh} {t : TB} {σ0 : XSt} {o d : Nat} {f : Nat → Rs} (hE : XOk am S) (hX : GX g) (hT : XT σ0 t) (hd : 6 ≤ d) (hF : XMo g B am S (d - 1) t σ0 o f yX4_readTerm cX4_readTerm 3) (hL : LenG t f) (hM : Mono t f) : XMo g B am S d t σ0 o (chainG t opAdd f) yX4_readSum cX4_readSum 4 := by
  have ht := hT.2.1
  intro x σ hs
  refine AM.of2 (own := RX4) (nm := "readSum") (L0 := [(0, .ref (am 4 0)), (1, .int (nI o))]) (by decide) rfl rfl (Nat.le_of_ble_eq_true rfl) rfl ?_
  refine r_aload_n dX4_readSum_0 rfl ?_
  refine r_iload_n dX4_readSum_1 rfl ?_
  refine x_call (c := 4) (i := 0) (As := [.int (nI o)]) hE (fun _ _ => rfl) (Nat.le_of_ble_eq_true rfl) dX4_readSum_2 mf_X4_readTerm ml_RX4_77 (hF x _ hs) rfl rfl rfl rfl (Nat.le_of_ble_eq_true rfl) (by omega) (fun v s1 k1 => ?_)
  obtain ⟨rfl, k1⟩ := k1
  refine r_iconst (v := (0 : Int32)) dX4_readSum_5 (by decide) ?_
  refine r_istore_n dX4_readSum_6 (by decide) ?_
  cases x with
  | error y => exact xe_readSum (m := 0) hE rfl k1
  | ok a =>
    obtain ⟨cs, p⟩ := a
    have hp := hs.2.1.1
    rw [fin_loop]
    cases e1 : f p with
    | error y =>
      have k2 : ErX σ0 y s1 := by
        have := k1
        unfold bd at this
        dsimp only at this
        rw [e1] at this
        exact this
      exact xe_readSum (m := 0) hE rfl k2
    | ok r =>
      have k2 : (cs ++ r.1).length ≤ r.2.2 ∧ OkX t σ0 (cs ++ r.1) r.2.2 s1 := by
        have := k1
        unfold bd at this
        dsimp only at this
        rw [e1] at this
        exact this
      exact xl_readSum hE hX hT hd hF hL hM 162 cs r.1 r.2.1 r.2.2 0 _ (Nat.zero_le _) (by omega) k2.1 k2.2
set_option maxRecDepth 100000 in
set_option maxHeartbeats 2000000 in
theorem xe_readAnd {g : GC} {B : hH} {am : XAd} {S : XSh} {t : TB} {σ0 : XSt} {o d m y : Nat} {x : Sx2} (hE : XOk am S) {σ : XSt} (hx : x = .error y) (h : ErX σ0 y σ) : XW g B am S RX4 cX4_readAnd 3 none "readAnd" d (fun v σ' => v = none ∧ StX t σ0 x σ') 7 [(2, .int (nI m)), (0, .ref (am 4 0)), (1, .int (nI o))] [] σ := by
  subst hx
  refine r_iload_n dX4_readAnd_7 rfl ?_
  refine r_sipush (v := (160 : Int32)) dX4_readAnd_8 (by decide) ?_
  refine r_icmp_ge (tgt := 44) dX4_readAnd_11 (by decide) (fun c => ?_) (fun c => ?_)
  · refine r_vret dX4_readAnd_44 rfl ?_
    exact ⟨_, rfl, rfl, h⟩
  · refine r_aload_n dX4_readAnd_14 rfl ?_
    refine x_getI (c := 4) (x := 14) hE (fun _ _ => rfl) (fun _ => rfl) dX4_readAnd_15 fl_RX4_59 (Nat.le_of_ble_eq_true rfl) (h.2.1) ?_
    refine r_bipush (v := (10 : Int32)) dX4_readAnd_18 (by decide) ?_
    refine r_icmp_ne (tgt := 44) dX4_readAnd_20 (by decide) (fun c1 => ?_) (fun c1 => ?_)
    · refine r_vret dX4_readAnd_44 rfl ?_
      exact ⟨_, rfl, rfl, h⟩
    · exact absurd c1 (by decide)
set_option maxRecDepth 100000 in
set_option maxHeartbeats 2000000 in
theorem xl_readAnd {g : GC} {B : hH} {am : XAd} {S : XSh} {t : TB} {σ0 : XSt} {o d : Nat} {f : Nat → Rs} (hE : XOk am S) (hX : GX g) (hT : XT σ0 t) (hd : 6 ≤ d) (hF : XMo g B am S (d - 1) t σ0 o f yX4_readNot cX4_readNot 2) (hL : LenG t f) (hM : Mono t f) : ∀ (n : Nat) (cs cc : List Int32) (e : Ev) (p m : Nat) (σ : XSt), m ≤ p → t.2 - p < n → (cs ++ cc).length ≤ p → OkX t σ0 (cs ++ cc) p σ → XW g B am S RX4 cX4_readAnd 3 none "readAnd" d (fun v σ' => v = none ∧ StX t σ0 (fin cs (loopG t opAnd f n cc e p)) σ') 7 [(2, .int (nI m)), (0, .ref (am 4 0)), (1, .int (nI o))] [] σ := by
  have ht := hT.2.1
  intro n
  induction n with
  | zero => intro cs cc e p m σ _ h; exact absurd h (Nat.not_lt_zero _)
  | succ n ih =>
    intro cs cc e p m σ hm hn hlen hs
    have hp := hs.1.1
    have hq := (tk_le t p hp).2.1
    refine r_iload_n dX4_readAnd_7 rfl ?_
    refine r_sipush (v := (160 : Int32)) dX4_readAnd_8 (by decide) ?_
    refine r_icmp_ge (tgt := 44) dX4_readAnd_11 (by decide) (fun c => ?_) (fun c => ?_)
    · have h160 : 160 ≤ m := (nI_leI (a := 160) (by omega) (by omega)).mp c
      have hno : opAnd (tk t p) = none := op_and.2 (fun z => by
        have := tk_lt hp (Or.inl (((ct_lo (tk_ok t p) (k := 10) (by decide)).mp z).1))
        omega)
      refine r_vret dX4_readAnd_44 rfl ?_
      exact ⟨_, rfl, rfl, by rw [loopG, hno]; exact ⟨hlen, hs⟩⟩
    · refine r_aload_n dX4_readAnd_14 rfl ?_
      refine x_getI (c := 4) (x := (ctok (tk t p))) hE (fun _ _ => rfl) (fun _ => rfl) dX4_readAnd_15 fl_RX4_59 (Nat.le_of_ble_eq_true rfl) (hs.1.2.1) ?_
      refine r_bipush (v := (10 : Int32)) dX4_readAnd_18 (by decide) ?_
      refine r_icmp_ne (tgt := 44) dX4_readAnd_20 (by decide) (fun c1 => ?_) (fun c1 => ?_)
      · refine r_vret dX4_readAnd_44 rfl ?_
        exact ⟨_, rfl, rfl, by rw [loopG, op_and.2 c1]; exact ⟨hlen, hs⟩⟩
      · have _h1 := ((ct_lo (tk_ok t p) (k := 10) (by decide)).mp c1).1
        have hop := op_and.1 c1
        have hgt := tk_lt hp (Or.inl _h1)
        have hgt2 : p < (tk t p).2.2.2 := tk_gt t p hp (Or.inl _h1)
        have hs1 := ok_next (S := S) hT hs (Or.inl _h1)
        refine r_aload_n dX4_readAnd_23 rfl ?_
        refine x_callV0 (c := 4) (i := 0) hE (fun _ _ => rfl) (Nat.le_of_ble_eq_true rfl) dX4_readAnd_24 mf_X4_next ml_RX4_32 (ok_X4_next (d := d - 1) hE hX (by omega) _ (hs.size hT) hs.place) rfl rfl rfl rfl (Nat.le_of_ble_eq_true rfl) (by omega) ?_
        refine r_aload_n dX4_readAnd_27 rfl ?_
        refine r_iload_n dX4_readAnd_28 rfl ?_
        refine x_call (c := 4) (i := 0) (As := [.int (nI o)]) hE (fun _ _ => rfl) (Nat.le_of_ble_eq_true rfl) dX4_readAnd_29 mf_X4_readNot ml_RX4_65 (hF (.ok (cs ++ cc, (tk t p).2.2.2)) _ ⟨by show (cs ++ cc).length ≤ _; omega, hs1⟩) rfl rfl rfl rfl (Nat.le_of_ble_eq_true rfl) (by omega) (fun v s1 k1 => ?_)
        obtain ⟨rfl, k1⟩ := k1
        rw [loopG, hop]
        dsimp only
        cases e2 : f (tk t p).2.2.2 with
        | error y =>
          have k2 : ErX σ0 y s1 := by
            have := k1
            unfold bd at this
            dsimp only at this
            rw [e2] at this
            exact this
          refine r_aload_n dX4_readAnd_32 rfl ?_
          refine r_bipush (v := (-10 : Int32)) dX4_readAnd_33 (by decide) ?_
          refine x_callV0 (c := 4) (i := 0) hE (fun _ _ => rfl) (Nat.le_of_ble_eq_true rfl) dX4_readAnd_35 mf_X4_emit ml_RX4_62 (ok_X4_emit (d := d - 1) hE hX (by omega) _ _ k2.2.2.1) rfl rfl rfl rfl (Nat.le_of_ble_eq_true rfl) (by omega) ?_
          refine r_iinc2 (w := 1) dX4_readAnd_38 rfl (by decide) (by decide) ?_
          refine r_goto (tgt := 7) dX4_readAnd_41 (by decide) ?_
          refine r_loc (L' := [(2, .int (nI (m + 1))), (0, .ref (am 4 0)), (1, .int (nI o))]) [0, 1, 2] (by rw [← nI_1]; rfl) ?_
          exact xe_readAnd hE rfl (er_emit k2 _)
        | ok r =>
          have k2 : (cs ++ cc ++ r.1).length ≤ r.2.2 ∧ OkX t σ0 (cs ++ cc ++ r.1) r.2.2 s1 := by
            have := k1
            unfold bd at this
            dsimp only at this
            rw [e2] at this
            exact this
          have l1 := hL _ hq _ e2
          have m1 := (hM _ hq).1 _ e2
          have l3 : (cs ++ cc ++ r.1).length = (cs ++ cc).length + r.1.length := List.length_append
          refine r_aload_n dX4_readAnd_32 rfl ?_
          refine r_bipush (v := (-10 : Int32)) dX4_readAnd_33 (by decide) ?_
          refine x_callV0 (c := 4) (i := 0) hE (fun _ _ => rfl) (Nat.le_of_ble_eq_true rfl) dX4_readAnd_35 mf_X4_emit ml_RX4_62 (ok_X4_emit (d := d - 1) hE hX (by omega) _ _ k2.2.cs) rfl rfl rfl rfl (Nat.le_of_ble_eq_true rfl) (by omega) ?_
          have hs3 := ok_emit (S := S) k2.2 (by omega) ((-10 : Int32))
          rw [List.append_assoc, List.append_assoc] at hs3
          refine r_iinc2 (w := 1) dX4_readAnd_38 rfl (by decide) (by decide) ?_
          refine r_goto (tgt := 7) dX4_readAnd_41 (by decide) ?_
          refine r_loc (L' := [(2, .int (nI (m + 1))), (0, .ref (am 4 0)), (1, .int (nI o))]) [0, 1, 2] (by rw [← nI_1]; rfl) ?_
          rw [← List.append_assoc cc] at hs3
          exact ih cs (cc ++ r.1 ++ [(-10 : Int32)]) _ _ (m + 1) _ (by omega) (by omega) (by
            rw [← List.append_assoc, ← List.append_assoc, List.length_append]
            show (cs ++ cc ++ r.1).length + 1 ≤ _
            omega) hs3
set_option maxRecDepth 100000 in
set_option maxHeartbeats 2000000 in
theorem xm_readAnd {g : GC} {B : hH} {am : XAd} {S : XSh} {t : TB} {σ0 : XSt} {o d : Nat} {f : Nat → Rs} (hE : XOk am S) (hX : GX g) (hT : XT σ0 t) (hd : 6 ≤ d) (hF : XMo g B am S (d - 1) t σ0 o f yX4_readNot cX4_readNot 2) (hL : LenG t f) (hM : Mono t f) : XMo g B am S d t σ0 o (chainG t opAnd f) yX4_readAnd cX4_readAnd 3 := by
  have ht := hT.2.1
  intro x σ hs
  refine AM.of2 (own := RX4) (nm := "readAnd") (L0 := [(0, .ref (am 4 0)), (1, .int (nI o))]) (by decide) rfl rfl (Nat.le_of_ble_eq_true rfl) rfl ?_
  refine r_aload_n dX4_readAnd_0 rfl ?_
  refine r_iload_n dX4_readAnd_1 rfl ?_
  refine x_call (c := 4) (i := 0) (As := [.int (nI o)]) hE (fun _ _ => rfl) (Nat.le_of_ble_eq_true rfl) dX4_readAnd_2 mf_X4_readNot ml_RX4_65 (hF x _ hs) rfl rfl rfl rfl (Nat.le_of_ble_eq_true rfl) (by omega) (fun v s1 k1 => ?_)
  obtain ⟨rfl, k1⟩ := k1
  refine r_iconst (v := (0 : Int32)) dX4_readAnd_5 (by decide) ?_
  refine r_istore_n dX4_readAnd_6 (by decide) ?_
  cases x with
  | error y => exact xe_readAnd (m := 0) hE rfl k1
  | ok a =>
    obtain ⟨cs, p⟩ := a
    have hp := hs.2.1.1
    rw [fin_loop]
    cases e1 : f p with
    | error y =>
      have k2 : ErX σ0 y s1 := by
        have := k1
        unfold bd at this
        dsimp only at this
        rw [e1] at this
        exact this
      exact xe_readAnd (m := 0) hE rfl k2
    | ok r =>
      have k2 : (cs ++ r.1).length ≤ r.2.2 ∧ OkX t σ0 (cs ++ r.1) r.2.2 s1 := by
        have := k1
        unfold bd at this
        dsimp only at this
        rw [e1] at this
        exact this
      exact xl_readAnd hE hX hT hd hF hL hM 162 cs r.1 r.2.1 r.2.2 0 _ (Nat.zero_le _) (by omega) k2.1 k2.2
set_option maxRecDepth 100000 in
set_option maxHeartbeats 2000000 in
theorem xe_readOr {g : GC} {B : hH} {am : XAd} {S : XSh} {t : TB} {σ0 : XSt} {o d m y : Nat} {x : Sx2} (hE : XOk am S) {σ : XSt} (hx : x = .error y) (h : ErX σ0 y σ) : XW g B am S RX4 cX4_readOr 3 none "readOr" d (fun v σ' => v = none ∧ StX t σ0 x σ') 7 [(2, .int (nI m)), (0, .ref (am 4 0)), (1, .int (nI o))] [] σ := by
  subst hx
  refine r_iload_n dX4_readOr_7 rfl ?_
  refine r_sipush (v := (160 : Int32)) dX4_readOr_8 (by decide) ?_
  refine r_icmp_ge (tgt := 44) dX4_readOr_11 (by decide) (fun c => ?_) (fun c => ?_)
  · refine r_vret dX4_readOr_44 rfl ?_
    exact ⟨_, rfl, rfl, h⟩
  · refine r_aload_n dX4_readOr_14 rfl ?_
    refine x_getI (c := 4) (x := 14) hE (fun _ _ => rfl) (fun _ => rfl) dX4_readOr_15 fl_RX4_59 (Nat.le_of_ble_eq_true rfl) (h.2.1) ?_
    refine r_bipush (v := (9 : Int32)) dX4_readOr_18 (by decide) ?_
    refine r_icmp_ne (tgt := 44) dX4_readOr_20 (by decide) (fun c1 => ?_) (fun c1 => ?_)
    · refine r_vret dX4_readOr_44 rfl ?_
      exact ⟨_, rfl, rfl, h⟩
    · exact absurd c1 (by decide)
set_option maxRecDepth 100000 in
set_option maxHeartbeats 2000000 in
theorem xl_readOr {g : GC} {B : hH} {am : XAd} {S : XSh} {t : TB} {σ0 : XSt} {o d : Nat} {f : Nat → Rs} (hE : XOk am S) (hX : GX g) (hT : XT σ0 t) (hd : 6 ≤ d) (hF : XMo g B am S (d - 1) t σ0 o f yX4_readAnd cX4_readAnd 3) (hL : LenG t f) (hM : Mono t f) : ∀ (n : Nat) (cs cc : List Int32) (e : Ev) (p m : Nat) (σ : XSt), m ≤ p → t.2 - p < n → (cs ++ cc).length ≤ p → OkX t σ0 (cs ++ cc) p σ → XW g B am S RX4 cX4_readOr 3 none "readOr" d (fun v σ' => v = none ∧ StX t σ0 (fin cs (loopG t opOr f n cc e p)) σ') 7 [(2, .int (nI m)), (0, .ref (am 4 0)), (1, .int (nI o))] [] σ := by
  have ht := hT.2.1
  intro n
  induction n with
  | zero => intro cs cc e p m σ _ h; exact absurd h (Nat.not_lt_zero _)
  | succ n ih =>
    intro cs cc e p m σ hm hn hlen hs
    have hp := hs.1.1
    have hq := (tk_le t p hp).2.1
    refine r_iload_n dX4_readOr_7 rfl ?_
    refine r_sipush (v := (160 : Int32)) dX4_readOr_8 (by decide) ?_
    refine r_icmp_ge (tgt := 44) dX4_readOr_11 (by decide) (fun c => ?_) (fun c => ?_)
    · have h160 : 160 ≤ m := (nI_leI (a := 160) (by omega) (by omega)).mp c
      have hno : opOr (tk t p) = none := op_or.2 (fun z => by
        have := tk_lt hp (Or.inl (((ct_lo (tk_ok t p) (k := 9) (by decide)).mp z).1))
        omega)
      refine r_vret dX4_readOr_44 rfl ?_
      exact ⟨_, rfl, rfl, by rw [loopG, hno]; exact ⟨hlen, hs⟩⟩
    · refine r_aload_n dX4_readOr_14 rfl ?_
      refine x_getI (c := 4) (x := (ctok (tk t p))) hE (fun _ _ => rfl) (fun _ => rfl) dX4_readOr_15 fl_RX4_59 (Nat.le_of_ble_eq_true rfl) (hs.1.2.1) ?_
      refine r_bipush (v := (9 : Int32)) dX4_readOr_18 (by decide) ?_
      refine r_icmp_ne (tgt := 44) dX4_readOr_20 (by decide) (fun c1 => ?_) (fun c1 => ?_)
      · refine r_vret dX4_readOr_44 rfl ?_
        exact ⟨_, rfl, rfl, by rw [loopG, op_or.2 c1]; exact ⟨hlen, hs⟩⟩
      · have _h1 := ((ct_lo (tk_ok t p) (k := 9) (by decide)).mp c1).1
        have hop := op_or.1 c1
        have hgt := tk_lt hp (Or.inl _h1)
        have hgt2 : p < (tk t p).2.2.2 := tk_gt t p hp (Or.inl _h1)
        have hs1 := ok_next (S := S) hT hs (Or.inl _h1)
        refine r_aload_n dX4_readOr_23 rfl ?_
        refine x_callV0 (c := 4) (i := 0) hE (fun _ _ => rfl) (Nat.le_of_ble_eq_true rfl) dX4_readOr_24 mf_X4_next ml_RX4_32 (ok_X4_next (d := d - 1) hE hX (by omega) _ (hs.size hT) hs.place) rfl rfl rfl rfl (Nat.le_of_ble_eq_true rfl) (by omega) ?_
        refine r_aload_n dX4_readOr_27 rfl ?_
        refine r_iload_n dX4_readOr_28 rfl ?_
        refine x_call (c := 4) (i := 0) (As := [.int (nI o)]) hE (fun _ _ => rfl) (Nat.le_of_ble_eq_true rfl) dX4_readOr_29 mf_X4_readAnd ml_RX4_56 (hF (.ok (cs ++ cc, (tk t p).2.2.2)) _ ⟨by show (cs ++ cc).length ≤ _; omega, hs1⟩) rfl rfl rfl rfl (Nat.le_of_ble_eq_true rfl) (by omega) (fun v s1 k1 => ?_)
        obtain ⟨rfl, k1⟩ := k1
        rw [loopG, hop]
        dsimp only
        cases e2 : f (tk t p).2.2.2 with
        | error y =>
          have k2 : ErX σ0 y s1 := by
            have := k1
            unfold bd at this
            dsimp only at this
            rw [e2] at this
            exact this
          refine r_aload_n dX4_readOr_32 rfl ?_
          refine r_bipush (v := (-9 : Int32)) dX4_readOr_33 (by decide) ?_
          refine x_callV0 (c := 4) (i := 0) hE (fun _ _ => rfl) (Nat.le_of_ble_eq_true rfl) dX4_readOr_35 mf_X4_emit ml_RX4_62 (ok_X4_emit (d := d - 1) hE hX (by omega) _ _ k2.2.2.1) rfl rfl rfl rfl (Nat.le_of_ble_eq_true rfl) (by omega) ?_
          refine r_iinc2 (w := 1) dX4_readOr_38 rfl (by decide) (by decide) ?_
          refine r_goto (tgt := 7) dX4_readOr_41 (by decide) ?_
          refine r_loc (L' := [(2, .int (nI (m + 1))), (0, .ref (am 4 0)), (1, .int (nI o))]) [0, 1, 2] (by rw [← nI_1]; rfl) ?_
          exact xe_readOr hE rfl (er_emit k2 _)
        | ok r =>
          have k2 : (cs ++ cc ++ r.1).length ≤ r.2.2 ∧ OkX t σ0 (cs ++ cc ++ r.1) r.2.2 s1 := by
            have := k1
            unfold bd at this
            dsimp only at this
            rw [e2] at this
            exact this
          have l1 := hL _ hq _ e2
          have m1 := (hM _ hq).1 _ e2
          have l3 : (cs ++ cc ++ r.1).length = (cs ++ cc).length + r.1.length := List.length_append
          refine r_aload_n dX4_readOr_32 rfl ?_
          refine r_bipush (v := (-9 : Int32)) dX4_readOr_33 (by decide) ?_
          refine x_callV0 (c := 4) (i := 0) hE (fun _ _ => rfl) (Nat.le_of_ble_eq_true rfl) dX4_readOr_35 mf_X4_emit ml_RX4_62 (ok_X4_emit (d := d - 1) hE hX (by omega) _ _ k2.2.cs) rfl rfl rfl rfl (Nat.le_of_ble_eq_true rfl) (by omega) ?_
          have hs3 := ok_emit (S := S) k2.2 (by omega) ((-9 : Int32))
          rw [List.append_assoc, List.append_assoc] at hs3
          refine r_iinc2 (w := 1) dX4_readOr_38 rfl (by decide) (by decide) ?_
          refine r_goto (tgt := 7) dX4_readOr_41 (by decide) ?_
          refine r_loc (L' := [(2, .int (nI (m + 1))), (0, .ref (am 4 0)), (1, .int (nI o))]) [0, 1, 2] (by rw [← nI_1]; rfl) ?_
          rw [← List.append_assoc cc] at hs3
          exact ih cs (cc ++ r.1 ++ [(-9 : Int32)]) _ _ (m + 1) _ (by omega) (by omega) (by
            rw [← List.append_assoc, ← List.append_assoc, List.length_append]
            show (cs ++ cc ++ r.1).length + 1 ≤ _
            omega) hs3
set_option maxRecDepth 100000 in
set_option maxHeartbeats 2000000 in
theorem xm_readOr {g : GC} {B : hH} {am : XAd} {S : XSh} {t : TB} {σ0 : XSt} {o d : Nat} {f : Nat → Rs} (hE : XOk am S) (hX : GX g) (hT : XT σ0 t) (hd : 6 ≤ d) (hF : XMo g B am S (d - 1) t σ0 o f yX4_readAnd cX4_readAnd 3) (hL : LenG t f) (hM : Mono t f) : XMo g B am S d t σ0 o (chainG t opOr f) yX4_readOr cX4_readOr 3 := by
  have ht := hT.2.1
  intro x σ hs
  refine AM.of2 (own := RX4) (nm := "readOr") (L0 := [(0, .ref (am 4 0)), (1, .int (nI o))]) (by decide) rfl rfl (Nat.le_of_ble_eq_true rfl) rfl ?_
  refine r_aload_n dX4_readOr_0 rfl ?_
  refine r_iload_n dX4_readOr_1 rfl ?_
  refine x_call (c := 4) (i := 0) (As := [.int (nI o)]) hE (fun _ _ => rfl) (Nat.le_of_ble_eq_true rfl) dX4_readOr_2 mf_X4_readAnd ml_RX4_56 (hF x _ hs) rfl rfl rfl rfl (Nat.le_of_ble_eq_true rfl) (by omega) (fun v s1 k1 => ?_)
  obtain ⟨rfl, k1⟩ := k1
  refine r_iconst (v := (0 : Int32)) dX4_readOr_5 (by decide) ?_
  refine r_istore_n dX4_readOr_6 (by decide) ?_
  cases x with
  | error y => exact xe_readOr (m := 0) hE rfl k1
  | ok a =>
    obtain ⟨cs, p⟩ := a
    have hp := hs.2.1.1
    rw [fin_loop]
    cases e1 : f p with
    | error y =>
      have k2 : ErX σ0 y s1 := by
        have := k1
        unfold bd at this
        dsimp only at this
        rw [e1] at this
        exact this
      exact xe_readOr (m := 0) hE rfl k2
    | ok r =>
      have k2 : (cs ++ r.1).length ≤ r.2.2 ∧ OkX t σ0 (cs ++ r.1) r.2.2 s1 := by
        have := k1
        unfold bd at this
        dsimp only at this
        rw [e1] at this
        exact this
      exact xl_readOr hE hX hT hd hF hL hM 162 cs r.1 r.2.1 r.2.2 0 _ (Nat.zero_le _) (by omega) k2.1 k2.2
