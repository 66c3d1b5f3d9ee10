
theorem jn_mul (a b : Int32) : jn (-42) a b = a * b := rfl
theorem jn_add (a b : Int32) : jn (-43) a b = a + b := rfl
theorem jn_sub (a b : Int32) : jn (-45) a b = a - b := rfl
theorem jn_and (a b : Int32) : jn (-10) a b = if a ≠ 0 ∧ b ≠ 0 then 1 else 0 := rfl
theorem jn_or (a b : Int32) : jn (-9) a b = if a ≠ 0 ∨ b ≠ 0 then 1 else 0 := rfl
theorem chain_er {t : TB} {op : Tk → Option Int32} {f : Nat → Rs} {p y : Nat} (e : f p = .error y) : chainG t op f p = .error y := by unfold chainG; rw [e]
theorem chain_ok {t : TB} {op : Tk → Option Int32} {f : Nat → Rs} {p : Nat} {r : List Int32 × Ev × Nat} (e : f p = .ok r) : chainG t op f p = loopG t op f 162 r.1 r.2.1 r.2.2 := by unfold chainG; rw [e]
theorem loop_no {t : TB} {op : Tk → Option Int32} {f : Nat → Rs} {n p : Nat} {c : List Int32} {e : Ev} (h : op (tk t p) = none) : loopG t op f (n + 1) c e p = .ok (c, e, p) := by rw [loopG, h]
theorem loop_er {t : TB} {op : Tk → Option Int32} {f : Nat → Rs} {n p y : Nat} {c : List Int32} {e : Ev} {k : Int32} (h : op (tk t p) = some k) (e2 : f (tk t p).2.2.2 = .error y) : loopG t op f (n + 1) c e p = .error y := by
  rw [loopG, h]
  simp only [e2]
theorem loop_ok {t : TB} {op : Tk → Option Int32} {f : Nat → Rs} {n p : Nat} {c : List Int32} {e : Ev} {k : Int32} {r : List Int32 × Ev × Nat} (h : op (tk t p) = some k) (e2 : f (tk t p).2.2.2 = .ok r) : loopG t op f (n + 1) c e p = loopG t op f n (c ++ r.1 ++ [k]) (fun v => jn k (e v) (r.2.1 v)) r.2.2 := by
  rw [loopG, h]
  simp only [e2]

set_option maxRecDepth 100000 in
set_option maxHeartbeats 2000000 in
theorem lt_term {g : GC} {E : ME} {t : TB} {x : Nat} {σ0 : MSt} {o d : Nat} {f : Nat → Rs} (hE : MEok E) (hT : TX σ0 t x) (hM : Mono t f) (ht : t.2 ≤ 160) (hd : 4 ≤ d) (hF : MCo g E (d - 1) t σ0 o f yX10_one cX10_one 2) : ∀ (n : Nat) (cc : List Int32) (e : Ev) (p : Nat) (σ : MSt) (l1 : Int32), p ≤ t.2 → t.2 - p < n → l1 = e (env σ0) → OkS t σ0 p o σ → MW g E cX10_term 2 (some .int) "term" d (Kp t σ0 o (loopG t opMul f n cc e p)) 5 [(0, .ref E.2.2), (1, .int l1)] [] σ := by
  intro n
  induction n with
  | zero => intro cc e p σ l1 _ h; exact absurd h (Nat.not_lt_zero _)
  | succ n ih =>
    intro cc e p σ l1 hp hn hl hs
    obtain ⟨w, hw, rfl⟩ := hs
    have hq := (tk_le t p hp).2.1
    refine r_aload_n dX10_term_5 rfl ?_
    refine r_bipush (v := 42) dX10_term_6 (by decide) ?_
    refine m_callW dX10_term_8 mf_X10_isSign ml_RX10_331 (ok_X10_isSign (d := d - 1) hE (by omega) _ _) rfl rfl rfl (Nat.le_of_ble_eq_true rfl) (by omega) ?_
    refine r_if_eq (tgt := 28) dX10_term_11 (by decide) (fun c => ?_) (fun c => ?_)
    · rw [ps_isS hw] at c
      have cA : ¬ ((tk t p).1 = 3 ∧ (tk t p).2.2.1 = 42) := ite_eq c
      refine r_iload_n dX10_term_28 rfl ?_
      refine r_iret dX10_term_29 rfl rfl ?_
      exact ⟨_, rfl, Kp.okI (a := (cc, e, p)) (loop_no (if_neg cA)) hp hl ⟨w, hw, rfl⟩⟩
    · rw [ps_isS hw] at c
      have cA : (tk t p).1 = 3 ∧ (tk t p).2.2.1 = 42 := ite_ne c
      have hop : opMul (tk t p) = some (-42) := if_pos cA
      have hgt := tk_gt t p hp (Or.inr cA.1)
      have hs1 := ps_next (w := w) (o := o) (p := p) hT hq
      refine r_aload_n dX10_term_14 rfl ?_
      refine m_callV0 dX10_term_15 mf_X10_next ml_RX10_294 (ok_X10_next (d := d - 1) hE (by omega) _  (ps_PV hT hp)) rfl rfl rfl (Nat.le_of_ble_eq_true rfl) (by omega) ?_
      generalize f_X10_next (psS σ0 (tk t p) w o) = s1 at hs1 ⊢
      refine r_iload_n dX10_term_18 rfl ?_
      refine r_aload_n dX10_term_19 rfl ?_
      refine m_call (As := []) dX10_term_20 mf_X10_one ml_RX10_337 (hF _ _ hq hs1) rfl rfl rfl (Nat.le_of_ble_eq_true rfl) (by omega) (fun v1 s2 k1 => ?_)
      cases e2 : f (tk t p).2.2.2 with
      | error y =>
        rw [e2] at k1
        obtain ⟨⟨z, rfl⟩, hEr⟩ := k1
        refine r_imul dX10_term_23 ?_
        refine r_istore_n dX10_term_24 (by decide) ?_
        refine r_goto (tgt := 5) dX10_term_25 (by decide) ?_
        refine r_aload_n dX10_term_5 rfl ?_
        refine r_bipush (v := 42) dX10_term_6 (by decide) ?_
        refine m_callW dX10_term_8 mf_X10_isSign ml_RX10_331 (ok_X10_isSign (d := d - 1) hE (by omega) _ _) rfl rfl rfl (Nat.le_of_ble_eq_true rfl) (by omega) ?_
        rw [er_isS hEr]
        refine r_if_eq (tgt := 28) dX10_term_11 (by decide) (fun q1 => ?_) (fun q1 => ?_)
        · refine r_iload_n dX10_term_28 rfl ?_
          refine r_iret dX10_term_29 rfl rfl ?_
          exact ⟨_, rfl, Kp.erI (loop_er hop e2) hEr⟩
        · exact absurd rfl q1
      | ok r =>
        rw [e2] at k1
        obtain ⟨h1, rfl, hs2⟩ := k1
        have hm := ((hM _ hq).1 r e2).1
        refine r_imul dX10_term_23 ?_
        refine r_istore_n dX10_term_24 (by decide) ?_
        refine r_goto (tgt := 5) dX10_term_25 (by decide) ?_
        rw [loop_ok hop e2]
        refine r_loc (L' := [(0, .ref E.2.2), (1, .int (l1 * r.2.1 (env σ0)))]) [1, 0] rfl ?_
        exact ih _ _ _ _ _ h1 (by omega) (by rw [hl]; rfl) hs2
set_option maxRecDepth 100000 in
set_option maxHeartbeats 2000000 in
theorem mk_term {g : GC} {E : ME} {t : TB} {x : Nat} {σ0 : MSt} {o d : Nat} {f : Nat → Rs} (hE : MEok E) (hT : TX σ0 t x) (hM : Mono t f) (ht : t.2 ≤ 160) (hd : 4 ≤ d) (hF : MCo g E (d - 1) t σ0 o f yX10_one cX10_one 2) : MCo g E d t σ0 o (chainG t opMul f) yX10_term cX10_term 2 := by
  intro p σ hp hs
  refine AM.of2 (own := RX10) (nm := "term") (L0 := [(0, .ref E.2.2)]) (by decide) rfl rfl (Nat.le_of_ble_eq_true rfl) rfl ?_
  refine r_aload_n dX10_term_0 rfl ?_
  refine m_call (As := []) dX10_term_1 mf_X10_one ml_RX10_337 (hF _ _ hp hs) rfl rfl rfl (Nat.le_of_ble_eq_true rfl) (by omega) (fun v1 s1 k1 => ?_)
  cases e1 : f p with
  | error y =>
    rw [e1] at k1
    obtain ⟨⟨z, rfl⟩, hEr⟩ := k1
    refine r_istore_n dX10_term_4 (by decide) ?_
    refine r_aload_n dX10_term_5 rfl ?_
    refine r_bipush (v := 42) dX10_term_6 (by decide) ?_
    refine m_callW dX10_term_8 mf_X10_isSign ml_RX10_331 (ok_X10_isSign (d := d - 1) hE (by omega) _ _) rfl rfl rfl (Nat.le_of_ble_eq_true rfl) (by omega) ?_
    rw [er_isS hEr]
    refine r_if_eq (tgt := 28) dX10_term_11 (by decide) (fun q1 => ?_) (fun q1 => ?_)
    · refine r_iload_n dX10_term_28 rfl ?_
      refine r_iret dX10_term_29 rfl rfl ?_
      exact ⟨_, rfl, Kp.erI (chain_er e1) hEr⟩
    · exact absurd rfl q1
  | ok r =>
    rw [e1] at k1
    obtain ⟨h1, rfl, hs2⟩ := k1
    refine r_istore_n dX10_term_4 (by decide) ?_
    rw [chain_ok e1]
    refine r_loc (L' := [(0, .ref E.2.2), (1, .int (r.2.1 (env σ0)))]) [1, 0] rfl ?_
    exact lt_term hE hT hM ht hd hF 162 _ _ _ _ _ h1 (by omega) rfl hs2
set_option maxRecDepth 100000 in
set_option maxHeartbeats 2000000 in
theorem lt_both {g : GC} {E : ME} {t : TB} {x : Nat} {σ0 : MSt} {o d : Nat} {f : Nat → Rs} (hE : MEok E) (hT : TX σ0 t x) (hM : Mono t f) (ht : t.2 ≤ 160) (hd : 7 ≤ d) (hF : MCo g E (d - 1) t σ0 o f yX10_not cX10_not 4) : ∀ (n : Nat) (cc : List Int32) (e : Ev) (p : Nat) (σ : MSt) (l1 : Int32), p ≤ t.2 → t.2 - p < n → l1 = e (env σ0) → OkS t σ0 p o σ → MW g E cX10_both 3 (some .int) "both" d (Kp t σ0 o (loopG t opAnd f n cc e p)) 5 [(0, .ref E.2.2), (1, .int l1)] [] σ := by
  intro n
  induction n with
  | zero => intro cc e p σ l1 _ h; exact absurd h (Nat.not_lt_zero _)
  | succ n ih =>
    intro cc e p σ l1 hp hn hl hs
    obtain ⟨w, hw, rfl⟩ := hs
    have hq := (tk_le t p hp).2.1
    refine r_aload_n dX10_both_5 rfl ?_
    refine r_ldc2 dX10_both_6 kc_RX10_362 ?_
    refine m_callW dX10_both_9 mf_X10_isWord ml_RX10_299 (ok_X10_isWord (d := d - 1) hE (by omega) _ _) rfl rfl rfl (Nat.le_of_ble_eq_true rfl) (by omega) ?_
    refine r_if_eq (tgt := 41) dX10_both_12 (by decide) (fun c => ?_) (fun c => ?_)
    · rw [ps_isW hw] at c
      have cA : ¬ ((tk t p).1 = 1 ∧ (tk t p).2.2.1 = 1111) := ite_eq c
      refine r_iload_n dX10_both_41 rfl ?_
      refine r_iret dX10_both_42 rfl rfl ?_
      exact ⟨_, rfl, Kp.okI (a := (cc, e, p)) (loop_no (if_neg cA)) hp hl ⟨w, hw, rfl⟩⟩
    · rw [ps_isW hw] at c
      have cA : (tk t p).1 = 1 ∧ (tk t p).2.2.1 = 1111 := ite_ne c
      have hop : opAnd (tk t p) = some (-10) := if_pos cA
      have hgt := tk_gt t p hp (Or.inl cA.1)
      have hs1 := ps_next (w := w) (o := o) (p := p) hT hq
      refine r_aload_n dX10_both_15 rfl ?_
      refine m_callV0 dX10_both_16 mf_X10_next ml_RX10_294 (ok_X10_next (d := d - 1) hE (by omega) _  (ps_PV hT hp)) rfl rfl rfl (Nat.le_of_ble_eq_true rfl) (by omega) ?_
      generalize f_X10_next (psS σ0 (tk t p) w o) = s1 at hs1 ⊢
      refine r_aload_n dX10_both_19 rfl ?_
      refine m_call (As := []) dX10_both_20 mf_X10_not ml_RX10_354 (hF _ _ hq hs1) rfl rfl rfl (Nat.le_of_ble_eq_true rfl) (by omega) (fun v1 s2 k1 => ?_)
      cases e2 : f (tk t p).2.2.2 with
      | error y =>
        rw [e2] at k1
        obtain ⟨⟨z, rfl⟩, hEr⟩ := k1
        refine r_istore_n dX10_both_23 (by decide) ?_
        refine r_iload_n dX10_both_24 rfl ?_
        refine r_if_eq (tgt := 36) dX10_both_25 (by decide) (fun b1 => ?_) (fun b1 => ?_)
        · refine r_iconst (v := 0) dX10_both_36 (by decide) ?_
          refine r_istore_n dX10_both_37 (by decide) ?_
          refine r_goto (tgt := 5) dX10_both_38 (by decide) ?_
          refine r_aload_n dX10_both_5 rfl ?_
          refine r_ldc2 dX10_both_6 kc_RX10_362 ?_
          refine m_callW dX10_both_9 mf_X10_isWord ml_RX10_299 (ok_X10_isWord (d := d - 1) hE (by omega) _ _) rfl rfl rfl (Nat.le_of_ble_eq_true rfl) (by omega) ?_
          rw [er_isW hEr]
          refine r_if_eq (tgt := 41) dX10_both_12 (by decide) (fun q1 => ?_) (fun q1 => ?_)
          · refine r_iload_n dX10_both_41 rfl ?_
            refine r_iret dX10_both_42 rfl rfl ?_
            exact ⟨_, rfl, Kp.erI (loop_er hop e2) hEr⟩
          · exact absurd rfl q1
        · refine r_iload_n dX10_both_28 rfl ?_
          refine r_if_eq (tgt := 36) dX10_both_29 (by decide) (fun b2 => ?_) (fun b2 => ?_)
          · refine r_iconst (v := 0) dX10_both_36 (by decide) ?_
            refine r_istore_n dX10_both_37 (by decide) ?_
            refine r_goto (tgt := 5) dX10_both_38 (by decide) ?_
            refine r_aload_n dX10_both_5 rfl ?_
            refine r_ldc2 dX10_both_6 kc_RX10_362 ?_
            refine m_callW dX10_both_9 mf_X10_isWord ml_RX10_299 (ok_X10_isWord (d := d - 1) hE (by omega) _ _) rfl rfl rfl (Nat.le_of_ble_eq_true rfl) (by omega) ?_
            rw [er_isW hEr]
            refine r_if_eq (tgt := 41) dX10_both_12 (by decide) (fun q1 => ?_) (fun q1 => ?_)
            · refine r_iload_n dX10_both_41 rfl ?_
              refine r_iret dX10_both_42 rfl rfl ?_
              exact ⟨_, rfl, Kp.erI (loop_er hop e2) hEr⟩
            · exact absurd rfl q1
          · refine r_iconst (v := 1) dX10_both_32 (by decide) ?_
            refine r_goto (tgt := 37) dX10_both_33 (by decide) ?_
            refine r_istore_n dX10_both_37 (by decide) ?_
            refine r_goto (tgt := 5) dX10_both_38 (by decide) ?_
            refine r_aload_n dX10_both_5 rfl ?_
            refine r_ldc2 dX10_both_6 kc_RX10_362 ?_
            refine m_callW dX10_both_9 mf_X10_isWord ml_RX10_299 (ok_X10_isWord (d := d - 1) hE (by omega) _ _) rfl rfl rfl (Nat.le_of_ble_eq_true rfl) (by omega) ?_
            rw [er_isW hEr]
            refine r_if_eq (tgt := 41) dX10_both_12 (by decide) (fun q1 => ?_) (fun q1 => ?_)
            · refine r_iload_n dX10_both_41 rfl ?_
              refine r_iret dX10_both_42 rfl rfl ?_
              exact ⟨_, rfl, Kp.erI (loop_er hop e2) hEr⟩
            · exact absurd rfl q1
      | ok r =>
        rw [e2] at k1
        obtain ⟨h1, rfl, hs2⟩ := k1
        have hm := ((hM _ hq).1 r e2).1
        refine r_istore_n dX10_both_23 (by decide) ?_
        refine r_iload_n dX10_both_24 rfl ?_
        refine r_if_eq (tgt := 36) dX10_both_25 (by decide) (fun b1 => ?_) (fun b1 => ?_)
        · refine r_iconst (v := 0) dX10_both_36 (by decide) ?_
          refine r_istore_n dX10_both_37 (by decide) ?_
          refine r_goto (tgt := 5) dX10_both_38 (by decide) ?_
          rw [loop_ok hop e2]
          refine r_loc (L' := [(0, .ref E.2.2), (1, .int 0)]) [2, 0] rfl ?_
          exact ih _ _ _ _ _ h1 (by omega) (by show (0 : Int32) = jn (-10) _ _; rw [jn_and, ← hl]; exact (if_neg (fun q => q.1 b1)).symm) hs2
        · refine r_iload_n dX10_both_28 rfl ?_
          refine r_if_eq (tgt := 36) dX10_both_29 (by decide) (fun b2 => ?_) (fun b2 => ?_)
          · refine r_iconst (v := 0) dX10_both_36 (by decide) ?_
            refine r_istore_n dX10_both_37 (by decide) ?_
            refine r_goto (tgt := 5) dX10_both_38 (by decide) ?_
            rw [loop_ok hop e2]
            refine r_loc (L' := [(0, .ref E.2.2), (1, .int 0)]) [2, 0] rfl ?_
            exact ih _ _ _ _ _ h1 (by omega) (by show (0 : Int32) = jn (-10) _ _; rw [jn_and, ← hl]; exact (if_neg (fun q => q.2 b2)).symm) hs2
          · refine r_iconst (v := 1) dX10_both_32 (by decide) ?_
            refine r_goto (tgt := 37) dX10_both_33 (by decide) ?_
            refine r_istore_n dX10_both_37 (by decide) ?_
            refine r_goto (tgt := 5) dX10_both_38 (by decide) ?_
            rw [loop_ok hop e2]
            refine r_loc (L' := [(0, .ref E.2.2), (1, .int 1)]) [2, 0] rfl ?_
            exact ih _ _ _ _ _ h1 (by omega) (by show (1 : Int32) = jn (-10) _ _; rw [jn_and, ← hl]; exact (if_pos ⟨b1, b2⟩).symm) hs2
set_option maxRecDepth 100000 in
set_option maxHeartbeats 2000000 in
theorem mk_both {g : GC} {E : ME} {t : TB} {x : Nat} {σ0 : MSt} {o d : Nat} {f : Nat → Rs} (hE : MEok E) (hT : TX σ0 t x) (hM : Mono t f) (ht : t.2 ≤ 160) (hd : 7 ≤ d) (hF : MCo g E (d - 1) t σ0 o f yX10_not cX10_not 4) : MCo g E d t σ0 o (chainG t opAnd f) yX10_both cX10_both 3 := by
  intro p σ hp hs
  refine AM.of2 (own := RX10) (nm := "both") (L0 := [(0, .ref E.2.2)]) (by decide) rfl rfl (Nat.le_of_ble_eq_true rfl) rfl ?_
  refine r_aload_n dX10_both_0 rfl ?_
  refine m_call (As := []) dX10_both_1 mf_X10_not ml_RX10_354 (hF _ _ hp hs) rfl rfl rfl (Nat.le_of_ble_eq_true rfl) (by omega) (fun v1 s1 k1 => ?_)
  cases e1 : f p with
  | error y =>
    rw [e1] at k1
    obtain ⟨⟨z, rfl⟩, hEr⟩ := k1
    refine r_istore_n dX10_both_4 (by decide) ?_
    refine r_aload_n dX10_both_5 rfl ?_
    refine r_ldc2 dX10_both_6 kc_RX10_362 ?_
    refine m_callW dX10_both_9 mf_X10_isWord ml_RX10_299 (ok_X10_isWord (d := d - 1) hE (by omega) _ _) rfl rfl rfl (Nat.le_of_ble_eq_true rfl) (by omega) ?_
    rw [er_isW hEr]
    refine r_if_eq (tgt := 41) dX10_both_12 (by decide) (fun q1 => ?_) (fun q1 => ?_)
    · refine r_iload_n dX10_both_41 rfl ?_
      refine r_iret dX10_both_42 rfl rfl ?_
      exact ⟨_, rfl, Kp.erI (chain_er e1) hEr⟩
    · exact absurd rfl q1
  | ok r =>
    rw [e1] at k1
    obtain ⟨h1, rfl, hs2⟩ := k1
    refine r_istore_n dX10_both_4 (by decide) ?_
    rw [chain_ok e1]
    refine r_loc (L' := [(0, .ref E.2.2), (1, .int (r.2.1 (env σ0)))]) [1, 0] rfl ?_
    exact lt_both hE hT hM ht hd hF 162 _ _ _ _ _ h1 (by omega) rfl hs2
set_option maxRecDepth 100000 in
set_option maxHeartbeats 2000000 in
theorem lt_either {g : GC} {E : ME} {t : TB} {x : Nat} {σ0 : MSt} {o d : Nat} {f : Nat → Rs} (hE : MEok E) (hT : TX σ0 t x) (hM : Mono t f) (ht : t.2 ≤ 160) (hd : 8 ≤ d) (hF : MCo g E (d - 1) t σ0 o f yX10_both cX10_both 3) : ∀ (n : Nat) (cc : List Int32) (e : Ev) (p : Nat) (σ : MSt) (l1 : Int32), p ≤ t.2 → t.2 - p < n → l1 = e (env σ0) → OkS t σ0 p o σ → MW g E cX10_either 3 (some .int) "either" d (Kp t σ0 o (loopG t opOr f n cc e p)) 5 [(0, .ref E.2.2), (1, .int l1)] [] σ := by
  intro n
  induction n with
  | zero => intro cc e p σ l1 _ h; exact absurd h (Nat.not_lt_zero _)
  | succ n ih =>
    intro cc e p σ l1 hp hn hl hs
    obtain ⟨w, hw, rfl⟩ := hs
    have hq := (tk_le t p hp).2.1
    refine r_aload_n dX10_either_5 rfl ?_
    refine r_ldc2 dX10_either_6 kc_RX10_367 ?_
    refine m_callW dX10_either_9 mf_X10_isWord ml_RX10_299 (ok_X10_isWord (d := d - 1) hE (by omega) _ _) rfl rfl rfl (Nat.le_of_ble_eq_true rfl) (by omega) ?_
    refine r_if_eq (tgt := 41) dX10_either_12 (by decide) (fun c => ?_) (fun c => ?_)
    · rw [ps_isW hw] at c
      have cA : ¬ ((tk t p).1 = 1 ∧ (tk t p).2.2.1 = 423) := ite_eq c
      refine r_iload_n dX10_either_41 rfl ?_
      refine r_iret dX10_either_42 rfl rfl ?_
      exact ⟨_, rfl, Kp.okI (a := (cc, e, p)) (loop_no (if_neg cA)) hp hl ⟨w, hw, rfl⟩⟩
    · rw [ps_isW hw] at c
      have cA : (tk t p).1 = 1 ∧ (tk t p).2.2.1 = 423 := ite_ne c
      have hop : opOr (tk t p) = some (-9) := if_pos cA
      have hgt := tk_gt t p hp (Or.inl cA.1)
      have hs1 := ps_next (w := w) (o := o) (p := p) hT hq
      refine r_aload_n dX10_either_15 rfl ?_
      refine m_callV0 dX10_either_16 mf_X10_next ml_RX10_294 (ok_X10_next (d := d - 1) hE (by omega) _  (ps_PV hT hp)) rfl rfl rfl (Nat.le_of_ble_eq_true rfl) (by omega) ?_
      generalize f_X10_next (psS σ0 (tk t p) w o) = s1 at hs1 ⊢
      refine r_aload_n dX10_either_19 rfl ?_
      refine m_call (As := []) dX10_either_20 mf_X10_both ml_RX10_364 (hF _ _ hq hs1) rfl rfl rfl (Nat.le_of_ble_eq_true rfl) (by omega) (fun v1 s2 k1 => ?_)
      cases e2 : f (tk t p).2.2.2 with
      | error y =>
        rw [e2] at k1
        obtain ⟨⟨z, rfl⟩, hEr⟩ := k1
        refine r_istore_n dX10_either_23 (by decide) ?_
        refine r_iload_n dX10_either_24 rfl ?_
        refine r_if_ne (tgt := 32) dX10_either_25 (by decide) (fun b1 => ?_) (fun b1 => ?_)
        · refine r_iconst (v := 1) dX10_either_32 (by decide) ?_
          refine r_goto (tgt := 37) dX10_either_33 (by decide) ?_
          refine r_istore_n dX10_either_37 (by decide) ?_
          refine r_goto (tgt := 5) dX10_either_38 (by decide) ?_
          refine r_aload_n dX10_either_5 rfl ?_
          refine r_ldc2 dX10_either_6 kc_RX10_367 ?_
          refine m_callW dX10_either_9 mf_X10_isWord ml_RX10_299 (ok_X10_isWord (d := d - 1) hE (by omega) _ _) rfl rfl rfl (Nat.le_of_ble_eq_true rfl) (by omega) ?_
          rw [er_isW hEr]
          refine r_if_eq (tgt := 41) dX10_either_12 (by decide) (fun q1 => ?_) (fun q1 => ?_)
          · refine r_iload_n dX10_either_41 rfl ?_
            refine r_iret dX10_either_42 rfl rfl ?_
            exact ⟨_, rfl, Kp.erI (loop_er hop e2) hEr⟩
          · exact absurd rfl q1
        · refine r_iload_n dX10_either_28 rfl ?_
          refine r_if_eq (tgt := 36) dX10_either_29 (by decide) (fun b2 => ?_) (fun b2 => ?_)
          · refine r_iconst (v := 0) dX10_either_36 (by decide) ?_
            refine r_istore_n dX10_either_37 (by decide) ?_
            refine r_goto (tgt := 5) dX10_either_38 (by decide) ?_
            refine r_aload_n dX10_either_5 rfl ?_
            refine r_ldc2 dX10_either_6 kc_RX10_367 ?_
            refine m_callW dX10_either_9 mf_X10_isWord ml_RX10_299 (ok_X10_isWord (d := d - 1) hE (by omega) _ _) rfl rfl rfl (Nat.le_of_ble_eq_true rfl) (by omega) ?_
            rw [er_isW hEr]
            refine r_if_eq (tgt := 41) dX10_either_12 (by decide) (fun q1 => ?_) (fun q1 => ?_)
            · refine r_iload_n dX10_either_41 rfl ?_
              refine r_iret dX10_either_42 rfl rfl ?_
              exact ⟨_, rfl, Kp.erI (loop_er hop e2) hEr⟩
            · exact absurd rfl q1
          · refine r_iconst (v := 1) dX10_either_32 (by decide) ?_
            refine r_goto (tgt := 37) dX10_either_33 (by decide) ?_
            refine r_istore_n dX10_either_37 (by decide) ?_
            refine r_goto (tgt := 5) dX10_either_38 (by decide) ?_
            refine r_aload_n dX10_either_5 rfl ?_
            refine r_ldc2 dX10_either_6 kc_RX10_367 ?_
            refine m_callW dX10_either_9 mf_X10_isWord ml_RX10_299 (ok_X10_isWord (d := d - 1) hE (by omega) _ _) rfl rfl rfl (Nat.le_of_ble_eq_true rfl) (by omega) ?_
            rw [er_isW hEr]
            refine r_if_eq (tgt := 41) dX10_either_12 (by decide) (fun q1 => ?_) (fun q1 => ?_)
            · refine r_iload_n dX10_either_41 rfl ?_
              refine r_iret dX10_either_42 rfl rfl ?_
              exact ⟨_, rfl, Kp.erI (loop_er hop e2) hEr⟩
            · exact absurd rfl q1
      | ok r =>
        rw [e2] at k1
        obtain ⟨h1, rfl, hs2⟩ := k1
        have hm := ((hM _ hq).1 r e2).1
        refine r_istore_n dX10_either_23 (by decide) ?_
        refine r_iload_n dX10_either_24 rfl ?_
        refine r_if_ne (tgt := 32) dX10_either_25 (by decide) (fun b1 => ?_) (fun b1 => ?_)
        · refine r_iconst (v := 1) dX10_either_32 (by decide) ?_
          refine r_goto (tgt := 37) dX10_either_33 (by decide) ?_
          refine r_istore_n dX10_either_37 (by decide) ?_
          refine r_goto (tgt := 5) dX10_either_38 (by decide) ?_
          rw [loop_ok hop e2]
          refine r_loc (L' := [(0, .ref E.2.2), (1, .int 1)]) [2, 0] rfl ?_
          exact ih _ _ _ _ _ h1 (by omega) (by show (1 : Int32) = jn (-9) _ _; rw [jn_or, ← hl]; exact (if_pos (Or.inl b1)).symm) hs2
        · refine r_iload_n dX10_either_28 rfl ?_
          refine r_if_eq (tgt := 36) dX10_either_29 (by decide) (fun b2 => ?_) (fun b2 => ?_)
          · refine r_iconst (v := 0) dX10_either_36 (by decide) ?_
            refine r_istore_n dX10_either_37 (by decide) ?_
            refine r_goto (tgt := 5) dX10_either_38 (by decide) ?_
            rw [loop_ok hop e2]
            refine r_loc (L' := [(0, .ref E.2.2), (1, .int 0)]) [2, 0] rfl ?_
            exact ih _ _ _ _ _ h1 (by omega) (by show (0 : Int32) = jn (-9) _ _; rw [jn_or, ← hl]; exact (if_neg (fun q => q.elim (fun y => y b1) (fun y => y b2))).symm) hs2
          · refine r_iconst (v := 1) dX10_either_32 (by decide) ?_
            refine r_goto (tgt := 37) dX10_either_33 (by decide) ?_
            refine r_istore_n dX10_either_37 (by decide) ?_
            refine r_goto (tgt := 5) dX10_either_38 (by decide) ?_
            rw [loop_ok hop e2]
            refine r_loc (L' := [(0, .ref E.2.2), (1, .int 1)]) [2, 0] rfl ?_
            exact ih _ _ _ _ _ h1 (by omega) (by show (1 : Int32) = jn (-9) _ _; rw [jn_or, ← hl]; exact (if_pos (Or.inr b2)).symm) hs2
set_option maxRecDepth 100000 in
set_option maxHeartbeats 2000000 in
theorem mk_either {g : GC} {E : ME} {t : TB} {x : Nat} {σ0 : MSt} {o d : Nat} {f : Nat → Rs} (hE : MEok E) (hT : TX σ0 t x) (hM : Mono t f) (ht : t.2 ≤ 160) (hd : 8 ≤ d) (hF : MCo g E (d - 1) t σ0 o f yX10_both cX10_both 3) : MCo g E d t σ0 o (chainG t opOr f) yX10_either cX10_either 3 := by
  intro p σ hp hs
  refine AM.of2 (own := RX10) (nm := "either") (L0 := [(0, .ref E.2.2)]) (by decide) rfl rfl (Nat.le_of_ble_eq_true rfl) rfl ?_
  refine r_aload_n dX10_either_0 rfl ?_
  refine m_call (As := []) dX10_either_1 mf_X10_both ml_RX10_364 (hF _ _ hp hs) rfl rfl rfl (Nat.le_of_ble_eq_true rfl) (by omega) (fun v1 s1 k1 => ?_)
  cases e1 : f p with
  | error y =>
    rw [e1] at k1
    obtain ⟨⟨z, rfl⟩, hEr⟩ := k1
    refine r_istore_n dX10_either_4 (by decide) ?_
    refine r_aload_n dX10_either_5 rfl ?_
    refine r_ldc2 dX10_either_6 kc_RX10_367 ?_
    refine m_callW dX10_either_9 mf_X10_isWord ml_RX10_299 (ok_X10_isWord (d := d - 1) hE (by omega) _ _) rfl rfl rfl (Nat.le_of_ble_eq_true rfl) (by omega) ?_
    rw [er_isW hEr]
    refine r_if_eq (tgt := 41) dX10_either_12 (by decide) (fun q1 => ?_) (fun q1 => ?_)
    · refine r_iload_n dX10_either_41 rfl ?_
      refine r_iret dX10_either_42 rfl rfl ?_
      exact ⟨_, rfl, Kp.erI (chain_er e1) hEr⟩
    · exact absurd rfl q1
  | ok r =>
    rw [e1] at k1
    obtain ⟨h1, rfl, hs2⟩ := k1
    refine r_istore_n dX10_either_4 (by decide) ?_
    rw [chain_ok e1]
    refine r_loc (L' := [(0, .ref E.2.2), (1, .int (r.2.1 (env σ0)))]) [1, 0] rfl ?_
    exact lt_either hE hT hM ht hd hF 162 _ _ _ _ _ h1 (by omega) rfl hs2
set_option maxRecDepth 100000 in
set_option maxHeartbeats 2000000 in
theorem lt_added {g : GC} {E : ME} {t : TB} {x : Nat} {σ0 : MSt} {o d : Nat} {f : Nat → Rs} (hE : MEok E) (hT : TX σ0 t x) (hM : Mono t f) (ht : t.2 ≤ 160) (hd : 5 ≤ d) (hF : MCo g E (d - 1) t σ0 o f yX10_term cX10_term 2) : ∀ (n : Nat) (cc : List Int32) (e : Ev) (p : Nat) (σ : MSt) (l1 : Int32), p ≤ t.2 → t.2 - p < n → l1 = e (env σ0) → OkS t σ0 p o σ → MW g E cX10_added 4 (some .int) "added" d (Kp t σ0 o (loopG t opAdd f n cc e p)) 5 [(0, .ref E.2.2), (1, .int l1)] [] σ := by
  intro n
  induction n with
  | zero => intro cc e p σ l1 _ h; exact absurd h (Nat.not_lt_zero _)
  | succ n ih =>
    intro cc e p σ l1 hp hn hl hs
    obtain ⟨w, hw, rfl⟩ := hs
    have hq := (tk_le t p hp).2.1
    refine r_aload_n dX10_added_5 rfl ?_
    refine r_bipush (v := 43) dX10_added_6 (by decide) ?_
    refine m_callW dX10_added_8 mf_X10_isSign ml_RX10_331 (ok_X10_isSign (d := d - 1) hE (by omega) _ _) rfl rfl rfl (Nat.le_of_ble_eq_true rfl) (by omega) ?_
    refine r_if_ne (tgt := 23) dX10_added_11 (by decide) (fun c => ?_) (fun c => ?_)
    · rw [ps_isS hw] at c
      have cA : (tk t p).1 = 3 ∧ (tk t p).2.2.1 = 43 := ite_ne c
      have hop : opAdd (tk t p) = some (-43) := if_pos cA
      have hgt := tk_gt t p hp (Or.inr cA.1)
      have hs1 := ps_next (w := w) (o := o) (p := p) hT hq
      have hwv : w = 43 := (hw (Or.inr (Or.inr cA.1))).trans cA.2
      refine r_aload_n dX10_added_23 rfl ?_
      refine m_get dX10_added_24 fl_RX10_265 rfl ?_
      refine r_ldc2 dX10_added_27 kc_RX10_350 ?_
      refine r_lcmp dX10_added_30 ?_
      refine r_if_ne (tgt := 38) dX10_added_31 (by decide) (fun b0 => ?_) (fun b0 => ?_)
      · exact absurd ((lg_eq _ _).mpr hwv) b0
      · refine r_iconst (v := 1) dX10_added_34 (by decide) ?_
        refine r_goto (tgt := 39) dX10_added_35 (by decide) ?_
        refine r_istore_n dX10_added_39 (by decide) ?_
        refine r_aload_n dX10_added_40 rfl ?_
        refine m_callV0 dX10_added_41 mf_X10_next ml_RX10_294 (ok_X10_next (d := d - 1) hE (by omega) _  (ps_PV hT hp)) rfl rfl rfl (Nat.le_of_ble_eq_true rfl) (by omega) ?_
        generalize f_X10_next (psS σ0 (tk t p) w o) = s1 at hs1 ⊢
        refine r_aload_n dX10_added_44 rfl ?_
        refine m_call (As := []) dX10_added_45 mf_X10_term ml_RX10_347 (hF _ _ hq hs1) rfl rfl rfl (Nat.le_of_ble_eq_true rfl) (by omega) (fun v1 s2 k1 => ?_)
        cases e2 : f (tk t p).2.2.2 with
        | error y =>
          rw [e2] at k1
          obtain ⟨⟨z, rfl⟩, hEr⟩ := k1
          refine r_istore_n dX10_added_48 (by decide) ?_
          refine r_iload_n dX10_added_49 rfl ?_
          refine r_if_eq (tgt := 59) dX10_added_50 (by decide) (fun b1 => ?_) (fun b1 => ?_)
          · exact absurd b1 (by decide)
          · refine r_iload_n dX10_added_53 rfl ?_
            refine r_iload_n dX10_added_54 rfl ?_
            refine r_iadd dX10_added_55 ?_
            refine r_goto (tgt := 62) dX10_added_56 (by decide) ?_
            refine r_istore_n dX10_added_62 (by decide) ?_
            refine r_goto (tgt := 5) dX10_added_63 (by decide) ?_
            refine r_aload_n dX10_added_5 rfl ?_
            refine r_bipush (v := 43) dX10_added_6 (by decide) ?_
            refine m_callW dX10_added_8 mf_X10_isSign ml_RX10_331 (ok_X10_isSign (d := d - 1) hE (by omega) _ _) rfl rfl rfl (Nat.le_of_ble_eq_true rfl) (by omega) ?_
            rw [er_isS hEr]
            refine r_if_ne (tgt := 23) dX10_added_11 (by decide) (fun q1 => ?_) (fun q1 => ?_)
            · exact absurd rfl q1
            · refine r_aload_n dX10_added_14 rfl ?_
              refine r_bipush (v := 45) dX10_added_15 (by decide) ?_
              refine m_callW dX10_added_17 mf_X10_isSign ml_RX10_331 (ok_X10_isSign (d := d - 1) hE (by omega) _ _) rfl rfl rfl (Nat.le_of_ble_eq_true rfl) (by omega) ?_
              rw [er_isS hEr]
              refine r_if_eq (tgt := 66) dX10_added_20 (by decide) (fun q2 => ?_) (fun q2 => ?_)
              · refine r_iload_n dX10_added_66 rfl ?_
                refine r_iret dX10_added_67 rfl rfl ?_
                exact ⟨_, rfl, Kp.erI (loop_er hop e2) hEr⟩
              · exact absurd rfl q2
        | ok r =>
          rw [e2] at k1
          obtain ⟨h1, rfl, hs2⟩ := k1
          have hm := ((hM _ hq).1 r e2).1
          refine r_istore_n dX10_added_48 (by decide) ?_
          refine r_iload_n dX10_added_49 rfl ?_
          refine r_if_eq (tgt := 59) dX10_added_50 (by decide) (fun b1 => ?_) (fun b1 => ?_)
          · exact absurd b1 (by decide)
          · refine r_iload_n dX10_added_53 rfl ?_
            refine r_iload_n dX10_added_54 rfl ?_
            refine r_iadd dX10_added_55 ?_
            refine r_goto (tgt := 62) dX10_added_56 (by decide) ?_
            refine r_istore_n dX10_added_62 (by decide) ?_
            refine r_goto (tgt := 5) dX10_added_63 (by decide) ?_
            rw [loop_ok hop e2]
            refine r_loc (L' := [(0, .ref E.2.2), (1, .int (l1 + r.2.1 (env σ0)))]) [3, 0] rfl ?_
            exact ih _ _ _ _ _ h1 (by omega) (by rw [hl]; rfl) hs2
    · rw [ps_isS hw] at c
      have cA : ¬ ((tk t p).1 = 3 ∧ (tk t p).2.2.1 = 43) := ite_eq c
      refine r_aload_n dX10_added_14 rfl ?_
      refine r_bipush (v := 45) dX10_added_15 (by decide) ?_
      refine m_callW dX10_added_17 mf_X10_isSign ml_RX10_331 (ok_X10_isSign (d := d - 1) hE (by omega) _ _) rfl rfl rfl (Nat.le_of_ble_eq_true rfl) (by omega) ?_
      refine r_if_eq (tgt := 66) dX10_added_20 (by decide) (fun c1 => ?_) (fun c1 => ?_)
      · rw [ps_isS hw] at c1
        have cB : ¬ ((tk t p).1 = 3 ∧ (tk t p).2.2.1 = 45) := ite_eq c1
        refine r_iload_n dX10_added_66 rfl ?_
        refine r_iret dX10_added_67 rfl rfl ?_
        exact ⟨_, rfl, Kp.okI (a := (cc, e, p)) (loop_no (by unfold opAdd; rw [if_neg cA, if_neg cB])) hp hl ⟨w, hw, rfl⟩⟩
      · rw [ps_isS hw] at c1
        have cB : (tk t p).1 = 3 ∧ (tk t p).2.2.1 = 45 := ite_ne c1
        have hop : opAdd (tk t p) = some (-45) := by unfold opAdd; rw [if_neg cA, if_pos cB]
        have hgt := tk_gt t p hp (Or.inr cB.1)
        have hs1 := ps_next (w := w) (o := o) (p := p) hT hq
        have hwv : w = 45 := (hw (Or.inr (Or.inr cB.1))).trans cB.2
        refine r_aload_n dX10_added_23 rfl ?_
        refine m_get dX10_added_24 fl_RX10_265 rfl ?_
        refine r_ldc2 dX10_added_27 kc_RX10_350 ?_
        refine r_lcmp dX10_added_30 ?_
        refine r_if_ne (tgt := 38) dX10_added_31 (by decide) (fun b0 => ?_) (fun b0 => ?_)
        · refine r_iconst (v := 0) dX10_added_38 (by decide) ?_
          refine r_istore_n dX10_added_39 (by decide) ?_
          refine r_aload_n dX10_added_40 rfl ?_
          refine m_callV0 dX10_added_41 mf_X10_next ml_RX10_294 (ok_X10_next (d := d - 1) hE (by omega) _  (ps_PV hT hp)) rfl rfl rfl (Nat.le_of_ble_eq_true rfl) (by omega) ?_
          generalize f_X10_next (psS σ0 (tk t p) w o) = s1 at hs1 ⊢
          refine r_aload_n dX10_added_44 rfl ?_
          refine m_call (As := []) dX10_added_45 mf_X10_term ml_RX10_347 (hF _ _ hq hs1) rfl rfl rfl (Nat.le_of_ble_eq_true rfl) (by omega) (fun v1 s2 k1 => ?_)
          cases e2 : f (tk t p).2.2.2 with
          | error y =>
            rw [e2] at k1
            obtain ⟨⟨z, rfl⟩, hEr⟩ := k1
            refine r_istore_n dX10_added_48 (by decide) ?_
            refine r_iload_n dX10_added_49 rfl ?_
            refine r_if_eq (tgt := 59) dX10_added_50 (by decide) (fun b1 => ?_) (fun b1 => ?_)
            · refine r_iload_n dX10_added_59 rfl ?_
              refine r_iload_n dX10_added_60 rfl ?_
              refine r_isub dX10_added_61 ?_
              refine r_istore_n dX10_added_62 (by decide) ?_
              refine r_goto (tgt := 5) dX10_added_63 (by decide) ?_
              refine r_aload_n dX10_added_5 rfl ?_
              refine r_bipush (v := 43) dX10_added_6 (by decide) ?_
              refine m_callW dX10_added_8 mf_X10_isSign ml_RX10_331 (ok_X10_isSign (d := d - 1) hE (by omega) _ _) rfl rfl rfl (Nat.le_of_ble_eq_true rfl) (by omega) ?_
              rw [er_isS hEr]
              refine r_if_ne (tgt := 23) dX10_added_11 (by decide) (fun q1 => ?_) (fun q1 => ?_)
              · exact absurd rfl q1
              · refine r_aload_n dX10_added_14 rfl ?_
                refine r_bipush (v := 45) dX10_added_15 (by decide) ?_
                refine m_callW dX10_added_17 mf_X10_isSign ml_RX10_331 (ok_X10_isSign (d := d - 1) hE (by omega) _ _) rfl rfl rfl (Nat.le_of_ble_eq_true rfl) (by omega) ?_
                rw [er_isS hEr]
                refine r_if_eq (tgt := 66) dX10_added_20 (by decide) (fun q2 => ?_) (fun q2 => ?_)
                · refine r_iload_n dX10_added_66 rfl ?_
                  refine r_iret dX10_added_67 rfl rfl ?_
                  exact ⟨_, rfl, Kp.erI (loop_er hop e2) hEr⟩
                · exact absurd rfl q2
            · exact absurd rfl b1
          | ok r =>
            rw [e2] at k1
            obtain ⟨h1, rfl, hs2⟩ := k1
            have hm := ((hM _ hq).1 r e2).1
            refine r_istore_n dX10_added_48 (by decide) ?_
            refine r_iload_n dX10_added_49 rfl ?_
            refine r_if_eq (tgt := 59) dX10_added_50 (by decide) (fun b1 => ?_) (fun b1 => ?_)
            · refine r_iload_n dX10_added_59 rfl ?_
              refine r_iload_n dX10_added_60 rfl ?_
              refine r_isub dX10_added_61 ?_
              refine r_istore_n dX10_added_62 (by decide) ?_
              refine r_goto (tgt := 5) dX10_added_63 (by decide) ?_
              rw [loop_ok hop e2]
              refine r_loc (L' := [(0, .ref E.2.2), (1, .int (l1 - r.2.1 (env σ0)))]) [3, 0] rfl ?_
              exact ih _ _ _ _ _ h1 (by omega) (by rw [hl]; rfl) hs2
            · exact absurd rfl b1
        · exact absurd ((lg_eq _ _).mp b0) (by show ¬ w = 43; rw [hwv]; decide)
set_option maxRecDepth 100000 in
set_option maxHeartbeats 2000000 in
theorem mk_added {g : GC} {E : ME} {t : TB} {x : Nat} {σ0 : MSt} {o d : Nat} {f : Nat → Rs} (hE : MEok E) (hT : TX σ0 t x) (hM : Mono t f) (ht : t.2 ≤ 160) (hd : 5 ≤ d) (hF : MCo g E (d - 1) t σ0 o f yX10_term cX10_term 2) : MCo g E d t σ0 o (chainG t opAdd f) yX10_added cX10_added 4 := by
  intro p σ hp hs
  refine AM.of2 (own := RX10) (nm := "added") (L0 := [(0, .ref E.2.2)]) (by decide) rfl rfl (Nat.le_of_ble_eq_true rfl) rfl ?_
  refine r_aload_n dX10_added_0 rfl ?_
  refine m_call (As := []) dX10_added_1 mf_X10_term ml_RX10_347 (hF _ _ hp hs) rfl rfl rfl (Nat.le_of_ble_eq_true rfl) (by omega) (fun v1 s1 k1 => ?_)
  cases e1 : f p with
  | error y =>
    rw [e1] at k1
    obtain ⟨⟨z, rfl⟩, hEr⟩ := k1
    refine r_istore_n dX10_added_4 (by decide) ?_
    refine r_aload_n dX10_added_5 rfl ?_
    refine r_bipush (v := 43) dX10_added_6 (by decide) ?_
    refine m_callW dX10_added_8 mf_X10_isSign ml_RX10_331 (ok_X10_isSign (d := d - 1) hE (by omega) _ _) rfl rfl rfl (Nat.le_of_ble_eq_true rfl) (by omega) ?_
    rw [er_isS hEr]
    refine r_if_ne (tgt := 23) dX10_added_11 (by decide) (fun q1 => ?_) (fun q1 => ?_)
    · exact absurd rfl q1
    · refine r_aload_n dX10_added_14 rfl ?_
      refine r_bipush (v := 45) dX10_added_15 (by decide) ?_
      refine m_callW dX10_added_17 mf_X10_isSign ml_RX10_331 (ok_X10_isSign (d := d - 1) hE (by omega) _ _) rfl rfl rfl (Nat.le_of_ble_eq_true rfl) (by omega) ?_
      rw [er_isS hEr]
      refine r_if_eq (tgt := 66) dX10_added_20 (by decide) (fun q2 => ?_) (fun q2 => ?_)
      · refine r_iload_n dX10_added_66 rfl ?_
        refine r_iret dX10_added_67 rfl rfl ?_
        exact ⟨_, rfl, Kp.erI (chain_er e1) hEr⟩
      · exact absurd rfl q2
  | ok r =>
    rw [e1] at k1
    obtain ⟨h1, rfl, hs2⟩ := k1
    refine r_istore_n dX10_added_4 (by decide) ?_
    rw [chain_ok e1]
    refine r_loc (L' := [(0, .ref E.2.2), (1, .int (r.2.1 (env σ0)))]) [1, 0] rfl ?_
    exact lt_added hE hT hM ht hd hF 162 _ _ _ _ _ h1 (by omega) rfl hs2
