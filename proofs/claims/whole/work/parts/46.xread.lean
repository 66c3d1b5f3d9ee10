theorem cl_sm : Cond.sameMethod "[I" "java/lang/Object" "clone" "()Ljava/lang/Object;" ∈ tb := tb_at 457 (by decide +kernel) (by decide +kernel)
theorem cl_n : Cond.native ⟨"java/lang/Object", "clone", "()Ljava/lang/Object;"⟩ ∈ tb := tb_at 458 (by decide +kernel) (by decide +kernel)
theorem cl_i : Cond.instanceMethod ⟨"java/lang/Object", "clone", "()Ljava/lang/Object;"⟩ ∈ tb := tb_at 459 (by decide +kernel) (by decide +kernel)
theorem cl_s : Cond.selects "[I" ⟨"[I", "clone", "()Ljava/lang/Object;"⟩ ⟨"java/lang/Object", "clone", "()Ljava/lang/Object;"⟩ ∈ tb := tb_at 460 (by decide +kernel) (by decide +kernel)
section XV1
variable {g : GC} {B : hH} {am : XAd} {S : XSh} {own : String} {cc : ByteArray} {nL : Nat} {ret : Option FieldType} {nm : String} {d c0 n0 : Nat} {K : Option Value → hH → Prop} {pc : Nat} {L : List (Nat × Value)} {rest : List Value} {σ : XSt}
theorem v_get {c i idx k : Nat} {v : Value} (hE : XOk am S) (hc : ∀ f a, yE am S c i f a = .inr (c, xF am S c i f)) (hd : decode cc pc = .ok (.getfield idx, 3)) (hf : FL own idx c k) (hl : i < lim S c) (hv : (xF am S c i (σ.1 c i))[k]? = some v) (kk : AW g own cc nL ret nm d c0 n0 K (pc + 3) L (v :: rest) (xH B am S σ)) : AW g own cc nL ret nm d c0 n0 K pc L (.ref (am c i) :: rest) (xH B am S σ) :=
  r_getf hd hf ((xH_at hE σ hl).trans (congrArg some (hc _ _))) hv kk
theorem v_getI {c i idx k : Nat} {x : Int32} (hE : XOk am S) (hc : ∀ f a, yE am S c i f a = .inr (c, xF am S c i f)) (hv : ∀ f, (xF am S c i f)[k]? = some (.int (f k))) (hd : decode cc pc = .ok (.getfield idx, 3)) (hf : FL own idx c k) (hl : i < lim S c) (hx : σ.1 c i k = x) (kk : AW g own cc nL ret nm d c0 n0 K (pc + 3) L (.int x :: rest) (xH B am S σ)) : AW g own cc nL ret nm d c0 n0 K pc L (.ref (am c i) :: rest) (xH B am S σ) := by
  subst hx
  exact v_get hE hc hd hf hl (hv _) kk
theorem v_put {c i idx k : Nat} {x : Int32} {ty : FieldType} (hE : XOk am S) (hc : ∀ f a, yE am S c i f a = .inr (c, xF am S c i f)) (hd : decode cc pc = .ok (.putfield idx, 3)) (hf : FP own idx c k ty false) (hl : i < lim S c) (hn : narrow ty (.int x) = .int x) (hfit : fits ty (.int x) = true) (hk : ∀ f, k < (xF am S c i f).length) (hs : ∀ f x, (xF am S c i f).set k (.int x) = xF am S c i (upd f k x)) (kk : AW g own cc nL ret nm d c0 n0 K (pc + 3) L rest (xH B am S (xp σ c i k x))) : AW g own cc nL ret nm d c0 n0 K pc L (.int x :: .ref (am c i) :: rest) (xH B am S σ) := by
  refine r_putf hd hf ((xH_at hE σ hl).trans (congrArg some (hc _ _))) hn hfit (hk _) ?_
  rw [xH_set hE (σ := σ) (σ' := xp σ c i k x) hl (xE_p σ k x) (by
    show _ = yE am S c i (up3 σ.1 c i k x c i) (σ.2 c i)
    rw [up3_self, hc, hs])]
  exact kk
theorem v_call {c i : Nat} {y : MethodName} {cy : ByteArray} {maxL k0 idx d1 : Nat} {rt : Option FieldType} {As st0 : List Value} {K1 : Option Value → XSt → Prop} {q : vw_C} (hE : XOk am S) (hc : ∀ f a, yE am S c i f a = .inr (c, xF am S c i f)) (hl : i < lim S c) (hd : decode cc pc = .ok (.invokevirtual idx, 3)) (hm : MV y cy maxL rt k0) (hlk : Cond.methodLink own idx y ∈ tb) (hA : XC g B am S d1 y cy maxL rt (.ref (am c i) :: As) K1 σ) (hcl : vwCl[c]? = some q) (hq : q.1 = y.cls) (hk : As.length = k0) (hst : st0 = As.reverse ++ .ref (am c i) :: rest) (hcat : (rest.map fun v => v.category).sum ≤ 8) (hd1 : d1 + 1 ≤ d)
    (kk : ∀ v σ', K1 v σ' → AW g own cc nL ret nm d c0 n0 K (pc + 3) L (v.toList ++ rest) (xH B am S σ')) : AW g own cc nL ret nm d c0 n0 K pc L st0 (xH B am S σ) :=
  r_callV hd hm hlk hA ((xH_at hE σ hl).trans (congrArg some (hc _ _))) hcl hq hk hst hcat hd1 (Nat.zero_le _) (Nat.zero_le _) (fun v h' ⟨σ', e, hK⟩ => by subst e; exact kk v σ' hK)
end XV1
section CT
variable {g : GC} {d : Nat} {h : hH} {q : Nat}
set_option maxRecDepth 100000 in
set_option maxHeartbeats 2000000 in
theorem ok_X8_init (hd : 1 ≤ d) {a b c e f : Int32} (hq : h q = some (.inr (8, [.int 0, .int 0, .int 0, .int 0, .int 0, .int 0]))) : AM g d 0 0 yX8_init cX8_init 6 none [.ref q, .int a, .int b, .int c, .int e, .int f] h (fun v h' => v = none ∧ h' = hu h q (.inr (8, [.int a, .int b, .int c, .int e, .int f, .int 0]))) := by
  refine AM.of2 (own := RX8) (nm := "<init>") (L0 := [(0, .ref q), (1, .int a), (2, .int b), (3, .int c), (4, .int e), (5, .int f)]) (by decide) rfl rfl (Nat.le_of_ble_eq_true rfl) rfl ?_
  refine r_aload_n dX8_init_0 rfl ?_
  refine r_objI dX8_init_1 ml_RX8_1 oi_i oi_c (Nat.le_of_ble_eq_true rfl) (by omega) ?_
  refine r_aload_n dX8_init_4 rfl ?_
  refine r_iload_n dX8_init_5 rfl ?_
  refine r_putF (ci := 8) (k := 0) dX8_init_6 fp_RX8_7 rfl hq rfl rfl (Nat.le_of_ble_eq_true rfl) ?_
  refine r_aload_n dX8_init_9 rfl ?_
  refine r_iload_n dX8_init_10 rfl ?_
  refine r_putF (ci := 8) (k := 1) dX8_init_11 fp_RX8_13 rfl (hu_eq _ _ _) rfl rfl (Nat.le_of_ble_eq_true rfl) ?_
  rw [hu_hu]
  refine r_aload_n dX8_init_14 rfl ?_
  refine r_iload_n dX8_init_15 rfl ?_
  refine r_putF (ci := 8) (k := 2) dX8_init_16 fp_RX8_16 rfl (hu_eq _ _ _) rfl rfl (Nat.le_of_ble_eq_true rfl) ?_
  rw [hu_hu]
  refine r_aload_n dX8_init_19 rfl ?_
  refine r_iload dX8_init_20 rfl ?_
  refine r_putF (ci := 8) (k := 3) dX8_init_22 fp_RX8_19 rfl (hu_eq _ _ _) rfl rfl (Nat.le_of_ble_eq_true rfl) ?_
  rw [hu_hu]
  refine r_aload_n dX8_init_25 rfl ?_
  refine r_iload dX8_init_26 rfl ?_
  refine r_putF (ci := 8) (k := 4) dX8_init_28 fp_RX8_22 rfl (hu_eq _ _ _) rfl rfl (Nat.le_of_ble_eq_true rfl) ?_
  rw [hu_hu]
  exact r_vret dX8_init_31 rfl ⟨rfl, rfl⟩
set_option maxRecDepth 100000 in
set_option maxHeartbeats 2000000 in
theorem ok_X5_init (hd : 1 ≤ d) {a : Nat} {x y : Int32} (hq : h q = some (.inr (5, [.null, .int 0, .int 0]))) : AM g d 0 0 yX5_init cX5_init 4 none [.ref q, .ref a, .int x, .int y] h (fun v h' => v = none ∧ h' = hu h q (.inr (5, [.ref a, .int x, .int y]))) := by
  refine AM.of2 (own := RX5) (nm := "<init>") (L0 := [(0, .ref q), (1, .ref a), (2, .int x), (3, .int y)]) (by decide) rfl rfl (Nat.le_of_ble_eq_true rfl) rfl ?_
  refine r_aload_n dX5_init_0 rfl ?_
  refine r_objI dX5_init_1 ml_RX5_3 oi_i oi_c (Nat.le_of_ble_eq_true rfl) (by omega) ?_
  refine r_aload_n dX5_init_4 rfl ?_
  refine r_aload_n dX5_init_5 rfl ?_
  refine r_putF (ci := 5) (k := 0) dX5_init_6 fp_RX5_9 rfl hq rfl rfl (Nat.le_of_ble_eq_true rfl) ?_
  refine r_aload_n dX5_init_9 rfl ?_
  refine r_iload_n dX5_init_10 rfl ?_
  refine r_putF (ci := 5) (k := 1) dX5_init_11 fp_RX5_15 rfl (hu_eq _ _ _) rfl rfl (Nat.le_of_ble_eq_true rfl) ?_
  rw [hu_hu]
  refine r_aload_n dX5_init_14 rfl ?_
  refine r_iload_n dX5_init_15 rfl ?_
  refine r_putF (ci := 5) (k := 2) dX5_init_16 fp_RX5_19 rfl (hu_eq _ _ _) rfl rfl (Nat.le_of_ble_eq_true rfl) ?_
  rw [hu_hu]
  exact r_vret dX5_init_19 rfl ⟨rfl, rfl⟩
set_option maxRecDepth 100000 in
set_option maxHeartbeats 2000000 in
theorem ok_X1_init (hX : GX g) (hd : 3 ≤ d) {a b : Nat} {k p pa : Int32} {fs : List Value} (hq : h q = some (.inr (1, [.int 0, .null, .null, .int 0, .int 0, .int 0, .int 0, .int 0, .int 0]))) (ha : h a = some (.inr (8, fs))) (hp : fs[3]? = some (.int pa)) : AM g d 0 0 yX1_init cX1_init 5 none [.ref q, .int k, .ref a, .ref b, .int p] h (fun v h' => v = none ∧ h' = hu h q (.inr (1, [.int k, .ref a, .ref b, .int (f_X1_shownParts k pa p), .int 0, .int (-1), .int 0, .int 0, .int 0]))) := by
  have hne : a ≠ q := fun z => by rw [z, hq] at ha; cases ha
  refine AM.of2 (own := RX1) (nm := "<init>") (L0 := [(0, .ref q), (1, .int k), (2, .ref a), (3, .ref b), (4, .int p)]) (by decide) rfl rfl (Nat.le_of_ble_eq_true rfl) rfl ?_
  refine r_aload_n dX1_init_0 rfl ?_
  refine r_objI dX1_init_1 ml_RX1_3 oi_i oi_c (Nat.le_of_ble_eq_true rfl) (by omega) ?_
  refine r_aload_n dX1_init_4 rfl ?_
  refine r_iload_n dX1_init_5 rfl ?_
  refine r_putF (ci := 1) (k := 0) dX1_init_6 fp_RX1_9 rfl hq rfl rfl (Nat.le_of_ble_eq_true rfl) ?_
  refine r_aload_n dX1_init_9 rfl ?_
  refine r_aload_n dX1_init_10 rfl ?_
  refine r_putF (ci := 1) (k := 1) dX1_init_11 fp_RX1_15 rfl (hu_eq _ _ _) rfl rfl (Nat.le_of_ble_eq_true rfl) ?_
  rw [hu_hu]
  refine r_aload_n dX1_init_14 rfl ?_
  refine r_aload_n dX1_init_15 rfl ?_
  refine r_putF (ci := 1) (k := 2) dX1_init_16 fp_RX1_19 rfl (hu_eq _ _ _) rfl rfl (Nat.le_of_ble_eq_true rfl) ?_
  rw [hu_hu]
  refine r_aload_n dX1_init_19 rfl ?_
  refine r_iload_n dX1_init_20 rfl ?_
  refine r_aload_n dX1_init_21 rfl ?_
  refine r_getf (v := .int pa) dX1_init_22 fl_RX1_22 (by rw [hu_ne hne]; exact ha) hp ?_
  refine r_iload dX1_init_25 rfl ?_
  refine r_callS0 (d1 := d - 1) dX1_init_27 mf_X1_shownParts ml_RX1_27 (ok_X1_shownParts hX (by omega) _ _ _) rfl rfl (Nat.le_of_ble_eq_true rfl) (by omega) ?_
  refine W_gen (fun sh esh => ?_)
  refine r_putF (ci := 1) (k := 3) dX1_init_30 fp_RX1_31 rfl (hu_eq _ _ _) rfl rfl (Nat.le_of_ble_eq_true rfl) ?_
  rw [hu_hu]
  refine r_aload_n dX1_init_33 rfl ?_
  refine r_iconst (v := (-1 : Int32)) dX1_init_34 (by decide) ?_
  refine r_putf (ci := 1) (k := 5) dX1_init_35 fp_RX1_34 (hu_eq _ _ _) rfl rfl (Nat.le_of_ble_eq_true rfl) ?_
  rw [hu_hu]
  exact r_vret dX1_init_38 rfl ⟨rfl, by rw [← esh]; rfl⟩
set_option maxRecDepth 100000 in
set_option maxHeartbeats 2000000 in
theorem ok_copyOf (hX : GX g) (hd : 1 ≤ d) {a N m : Nat} {f : Nat → Int32} (ha : h a = some (.inl (0, N, .inl f))) (hN : N ≤ 1000) (hm : m ≤ N) : AM g d 1 1000 yJ7_copyOf_59c91 cJ7_copyOf_59c91 3 (some (.array .int)) [.ref a, .int (nI m)] h (fun v h' => ∃ (q : Nat) (fb : Nat → Int32), h q = none ∧ v = some (.ref q) ∧ (∀ j, j < m → fb j = f j) ∧ h' = hu h q (.inl (0, m, .inl fb))) := by
  refine AM.of2 (own := RJ7) (nm := "copyOf") (L0 := [(0, .ref a), (1, .int (nI m))]) (by decide) rfl rfl (Nat.le_of_ble_eq_true rfl) rfl ?_
  refine r_iload_n dJ7_copyOf_59c91_0 rfl ?_
  refine r_aload_n dJ7_copyOf_59c91_1 rfl ?_
  refine r_alen (t0 := 0) dJ7_copyOf_59c91_2 ha rfl ?_
  refine r_icmp_ne (tgt := 14) dJ7_copyOf_59c91_3 (by decide) (fun c => ?_) (fun c => ?_)
  · refine r_iload_n dJ7_copyOf_59c91_14 rfl ?_
    refine r_newa (t0 := 0) (N := m) (ty := .int) (a0 := (m, .inl (fun _ => 0))) dJ7_copyOf_59c91_15 ac_int rfl rfl (fun C z => by cases z) (fun cA => rfl) (nI_pos (by omega)) (nI_clamp (by omega)) (by show m * 4 ≤ _; omega) (by omega) (by omega) (fun q hq => ?_)
    have hne : a ≠ q := fun z => by rw [z, hq] at ha; cases ha
    refine r_astore_n dJ7_copyOf_59c91_17 (by decide) ?_
    refine r_aload_n dJ7_copyOf_59c91_18 rfl ?_
    refine r_iconst (v := (0 : Int32)) dJ7_copyOf_59c91_19 (by decide) ?_
    refine r_aload_n dJ7_copyOf_59c91_20 rfl ?_
    refine r_iconst (v := (0 : Int32)) dJ7_copyOf_59c91_21 (by decide) ?_
    refine r_aload_n dJ7_copyOf_59c91_22 rfl ?_
    refine r_alen (t0 := 0) dJ7_copyOf_59c91_23 (by rw [hu_ne hne]; exact ha) rfl ?_
    refine r_iload_n dJ7_copyOf_59c91_24 rfl ?_
    refine r_mmin dJ7_copyOf_59c91_25 ml_RJ7_304 (Nat.le_of_ble_eq_true rfl) (by omega) ?_
    have e : (if nI m < Int32.ofNat N then nI m else Int32.ofNat N) = nI m := by
      by_cases z : nI m < Int32.ofNat N
      · rw [if_pos z]
      · rw [if_neg z]
        have : ¬ m < N := fun y => z (nI_lt (b := N) y (by omega))
        rw [show m = N by omega]; rfl
    rw [e]
    refine r_copy dJ7_copyOf_59c91_28 ml0_RJ7_150 cpN cpS cpI (by rw [hu_ne hne]; exact ha) (hu_eq _ _ _) (by decide) (by decide) (nI_pos (by omega)) (by rw [nI_clamp (by omega)]; show 0 + m ≤ N; omega) (by rw [nI_clamp (by omega)]; show 0 + m ≤ m; omega) (Nat.le_of_ble_eq_true rfl) (by omega) ?_
    rw [hu_hu]
    refine r_aload_n dJ7_copyOf_59c91_31 rfl ?_
    refine r_aret dJ7_copyOf_59c91_32 rfl (Or.inr ⟨_, rfl⟩) (Or.inr ⟨_, rfl⟩) ?_
    refine ⟨q, _, hq, rfl, fun j hj => ?_, rfl⟩
    rw [nI_clamp (by omega)]
    show va_cpy f _ 0 0 m j = f j
    rw [pk_cpy_in (Nat.zero_le _) (by omega)]
    rw [Nat.zero_add, Nat.sub_zero]
  · have e : m = N := (nI_eq (by omega) (by omega)).mp c
    subst e
    refine r_aload_n dJ7_copyOf_59c91_6 rfl ?_
    refine r_clone dJ7_copyOf_59c91_7 ml0_RJ7_316 cl_sm cl_n cl_i cl_s (hX.nw _ (List.mem_of_getElem? (i := 5) rfl)) ha (Nat.le_of_ble_eq_true rfl) (by omega) (by omega) (by omega) (fun q hq => ?_)
    refine r_castI dJ7_copyOf_59c91_10 cl_RJ7_317 (hu_eq _ _ _) ?_
    refine r_aret dJ7_copyOf_59c91_13 rfl (Or.inr ⟨_, rfl⟩) (Or.inr ⟨_, rfl⟩) ?_
    exact ⟨q, f, hq, rfl, fun _ _ => rfl, rfl⟩
end CT
