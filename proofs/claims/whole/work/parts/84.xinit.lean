/-! the class is made: the first text -/
def sP : Nat → XSt
  | 0 => xI0
  | k + 1 => f_X4_put xS0 (sP k) (sB 0 k)
def t79 : TB := (fun i => sB 0 i, 79)
def t80 : TB := (fun i => if i = 79 then 32 else sB 0 i, 80)
def chk2 (t t' : TB) : Bool := match textG t with
  | .error _ => false
  | .ok r => match textG t' with
    | .error _ => false
    | .ok r' => decide (r'.1.1 = r.1.1) && (decide (r'.2.1.1 = r.2.1.1) && decide (r'.2.2.1 = r.2.2.1))
set_option maxRecDepth 100000 in
theorem chk_79 : chk2 t79 t80 = true := by decide +kernel
theorem chk_ok : ∃ r r' : (List Int32 × Ev) × (List Int32 × Ev) × (List Int32 × Ev), textG t79 = .ok r ∧ textG t80 = .ok r' ∧ r'.1.1 = r.1.1 ∧ r'.2.1.1 = r.2.1.1 ∧ r'.2.2.1 = r.2.2.1 := by
  have h := chk_79
  unfold chk2 at h
  cases e : textG t79 with
  | error x => rw [e] at h; cases h
  | ok r =>
    rw [e] at h
    dsimp only at h
    cases e' : textG t80 with
    | error x => rw [e'] at h; cases h
    | ok r' =>
      rw [e'] at h
      simp only [Bool.and_eq_true, decide_eq_true_eq] at h
      exact ⟨r, r', rfl, rfl, h.1, h.2.1, h.2.2⟩
theorem sB_tab : ∀ j, j < 79 → vp_nar .byte (Int8.toInt32 (Int32.toInt8 (sB 0 j))) = sB 0 j ∧ sB 0 j = sB 0 j &&& 255 ∧ vp_nar .byte (sB 0 j) = sB 0 j := by decide +kernel
theorem sP_is : ∀ k, k ≤ 79 → (sP k).1 4 0 2 = nI k ∧ (∀ c i f, ¬ (c = 4 ∧ i = 0 ∧ f = 2) → (sP k).1 c i f = xI0.1 c i f) ∧ (∀ c i, ¬ (c = 28 ∧ i = 0) → (sP k).2 c i = xI0.2 c i) ∧ ∀ j, j < k → (sP k).2 28 0 j = sB 0 j
  | 0, _ => ⟨rfl, fun _ _ _ _ => rfl, fun _ _ _ => rfl, fun j hj => absurd hj (Nat.not_lt_zero _)⟩
  | k + 1, h => by
    obtain ⟨a, b, c, e⟩ := sP_is k (by omega)
    have c1 : ¬ (160 : Int32) ≤ nI k := fun q => by have := (nI_leI (a := 160) (by decide) (by omega)).mp q; omega
    have st : sP (k + 1) = xp (xa (sP k) 28 0 k (sB 0 k)) 4 0 2 (nI (k + 1)) := by
      show f_X4_put xS0 (sP k) (sB 0 k) = _
      unfold f_X4_put
      rw [a, if_neg c1, nI_clamp (by omega), (sB_tab k (by omega)).1, nI_1]
    rw [st]
    refine ⟨xp_s _ _ _ _ _, fun c' i f hc => ?_, fun c' i hc => ?_, fun j hj => ?_⟩
    · rw [xp_o (by omega)]
      exact b c' i f hc
    · show (xa (sP k) 28 0 k (sB 0 k)).2 c' i = _
      rw [xa_2 hc]
      exact c c' i hc
    · show (xa (sP k) 28 0 k (sB 0 k)).2 28 0 j = _
      by_cases q : j = k
      · rw [q, xa_at]
      · rw [xa_ne q]; exact e j (by omega)
theorem sP_xt : XT (sP 79) t79 := by
  obtain ⟨a, _, _, e⟩ := sP_is 79 (Nat.le_refl _)
  exact ⟨a, by decide, fun i hi => by rw [e i hi]; exact (sB_tab i hi).2.1, fun i hi => by rw [e i hi]; exact (sB_tab i hi).2.2⟩

set_option maxRecDepth 100000 in
set_option maxHeartbeats 2000000 in
theorem put_lp {g : GC} {h0 : hH} {am : XAd} {d : Nat} {K : Option Value → hH → Prop} (hE : XOk am xS0) (hX : GX g) (hd : 51 ≤ d) (hk : AW g RX9 cX9_init 2 none "<init>" d 2 1003 K 208 [(1, .int (nI 79)), (0, .ref (am 9 0))] [] (xH h0 am xS0 (sP 79))) : ∀ m k : Nat, k + m = 79 → AW g RX9 cX9_init 2 none "<init>" d 2 1003 K 180 [(1, .int (nI k)), (0, .ref (am 9 0))] [] (xH h0 am xS0 (sP k)) := by
  obtain ⟨sa, sv, s1s, s1r⟩ := hX.str 0 (by decide)
  have l9 : 0 < lim xS0 9 := Nat.le_of_ble_eq_true rfl
  have l4 : 0 < lim xS0 4 := Nat.le_of_ble_eq_true rfl
  intro m
  induction m with
  | zero =>
    intro k hkm
    have e : k = 79 := by omega
    subst e
    refine r_iload_n dX9_init_180 rfl ?_
    refine r_ldcS dX9_init_181 s1r ?_
    refine s_len dX9_init_183 ml_RX9_84 hX s1s (by decide) (Nat.le_of_ble_eq_true rfl) (by omega) ?_
    refine r_icmp_ge (tgt := 208) dX9_init_186 (by decide) (fun _ => ?_) (fun c => absurd (Int32.le_refl (nI 79)) c)
    exact hk
  | succ m ih =>
    intro k hkm
    have hk79 : k < 79 := by omega
    refine r_iload_n dX9_init_180 rfl ?_
    refine r_ldcS dX9_init_181 s1r ?_
    refine s_len dX9_init_183 ml_RX9_84 hX s1s (by decide) (Nat.le_of_ble_eq_true rfl) (by omega) ?_
    refine r_icmp_ge (tgt := 208) dX9_init_186 (by decide) (fun c => absurd ((nI_leI (a := 79) (by decide) (by omega)).mp c) (by omega)) (fun _ => ?_)
    refine r_aload_n dX9_init_189 rfl ?_
    refine v_get (c := 9) hE (fun _ _ => rfl) dX9_init_190 fl_RX9_44 l9 rfl ?_
    refine r_ldcS dX9_init_193 s1r ?_
    refine r_iload_n dX9_init_195 rfl ?_
    refine s_char (j := k) dX9_init_196 ml_RX9_90 hX s1s (by decide) rfl hk79 (Nat.le_of_ble_eq_true rfl) (by omega) ?_
    refine r_callV (As := [.int (sB 0 k)]) (d1 := d - 1) (c1 := 0) (n1 := 0) (ci := 4) dX9_init_199 mf_X4_put ml_RX9_94 (ok_X4_put hE hX (by omega) (sP k) (sB 0 k) ⟨k, by omega, (sP_is k (by omega)).1⟩) (xH_at hE (sP k) (c := 4) (i := 0) l4) rfl rfl rfl rfl (Nat.le_of_ble_eq_true rfl) (by omega) (Nat.zero_le _) (Nat.zero_le _) (fun v h' hh => ?_)
    obtain ⟨s', e1, e2, e3⟩ := hh
    subst e3; subst e1; subst e2
    refine r_iinc2 (w := 1) dX9_init_202 rfl (by decide) (by decide) ?_
    refine r_goto (tgt := 180) dX9_init_205 (by decide) ?_
    refine r_loc (L' := [(1, .int (nI (k + 1))), (0, .ref (am 9 0))]) [0, 1] (by rw [← nI_1]; rfl) ?_
    exact ih (k + 1) (by omega)
set_option maxRecDepth 100000 in
set_option maxHeartbeats 2000000 in
theorem read_lp {g : GC} {h0 : hH} {am : XAd} {d : Nat} {K : Option Value → hH → Prop} {r : (List Int32 × Ev) × (List Int32 × Ev) × (List Int32 × Ev)} (hE : XOk am xS0) (hX : GX g) (hd : 51 ≤ d) (hr : textG t79 = .ok r) (hk : ∀ (q1 q2 : Nat) (fb : Nat → Int32) (s1 : XSt), XOk (ruA am 0 q1 q2) (ruU xS0 0 (r.1.1 ++ r.2.1.1 ++ r.2.2.1).length) → h0 q1 = none → h0 q2 = none → (r.1.1 ++ r.2.1.1 ++ r.2.2.1).length ≤ 160 → (∀ j, j < (r.1.1 ++ r.2.1.1 ++ r.2.2.1).length → fb j = (r.1.1 ++ r.2.1.1 ++ r.2.2.1).getD j 0) → RdS (sP 79) s1 → K none (xH h0 (ruA am 0 q1 q2) (ruU xS0 0 (r.1.1 ++ r.2.1.1 ++ r.2.2.1).length) (ruS s1 0 (nI r.1.1.length) (nI (r.1.1 ++ r.2.1.1).length) fb))) : AW g RX9 cX9_init 2 none "<init>" d 2 1003 K 208 [(1, .int (nI 79)), (0, .ref (am 9 0))] [] (xH h0 am xS0 (sP 79)) := by
  have l9 : 0 < lim xS0 9 := Nat.le_of_ble_eq_true rfl
  have l12 : 0 < lim xS0 12 := Nat.le_of_ble_eq_true rfl
  have l4 : 0 < lim xS0 4 := Nat.le_of_ble_eq_true rfl
  refine r_aload_n dX9_init_208 rfl ?_
  refine v_get (c := 9) hE (fun _ _ => rfl) dX9_init_209 fl_RX9_23 l9 rfl ?_
  refine r_iconst (v := 0) dX9_init_212 (by decide) ?_
  refine r_aload_n dX9_init_213 rfl ?_
  refine v_get (c := 9) hE (fun _ _ => rfl) dX9_init_214 fl_RX9_44 l9 rfl ?_
  refine r_callV (As := []) (d1 := d - 1) (c1 := 2) (n1 := 1003) (ci := 4) dX9_init_217 mf_X4_read ml_RX9_98 (mk_X4_read hE hX (by omega) (sP 79) t79 sP_xt) (xH_at hE (sP 79) (c := 4) (i := 0) l4) rfl rfl rfl rfl (Nat.le_of_ble_eq_true rfl) (by omega) (Nat.le_refl _) (Nat.le_refl _) (fun v h' hh => ?_)
  unfold RdK at hh
  rw [hr] at hh
  obtain ⟨q1, q2, fb, s1, rfl, hq1, h12, hq2, rfl, hl, hfb, hR⟩ := hh
  have ho1 : ∀ x i, i < lim xS0 x → am x i ≠ q1 := fun x i h z => by rw [← z, xH_at hE _ h] at hq1; cases hq1
  have ho2 : ∀ x i, i < lim xS0 x → am x i ≠ q2 := fun x i h z => by rw [← z, xH_at hE _ h] at hq2; cases hq2
  have hB1 : h0 q1 = none := by rw [← hq1]; exact (xH_out ho1).symm
  have hB2 : h0 q2 = none := by rw [← hq2]; exact (xH_out ho2).symm
  have h912 : am 9 0 ≠ am 12 0 := fun z => absurd (hE _ _ _ _ l9 l12 z).1 (by decide)
  have hx9 : ∀ e1 e2 : (Nat × vp_A) ⊕ (Nat × List Value), hu (hu (xH h0 am xS0 s1) q2 e1) q1 e2 (am 9 0) = some (.inr (9, xF am xS0 9 0 (s1.1 9 0))) := fun e1 e2 => by rw [hu_ne (ho1 9 0 l9), hu_ne (ho2 9 0 l9)]; exact xH_at hE s1 (c := 9) (i := 0) l9
  refine r_aast (t0 := 5) (ci := 5) dX9_init_220 (by rw [hu_ne (ho1 12 0 l12), hu_ne (ho2 12 0 l12)]; exact xH_at hE s1 (c := 12) (i := 0) l12) rfl (hu_eq _ _ _) rfl (vp_in_nI (n := 0) (N := 6) (by decide) (by decide)) ?_
  refine r_aload_n dX9_init_221 rfl ?_
  refine r_iconst (v := 1) dX9_init_222 (by decide) ?_
  refine r_putf (ci := 9) (k := 5) dX9_init_223 fp_RX9_102 (by rw [hu_ne h912]; exact hx9 _ _) rfl rfl (Nat.le_of_ble_eq_true rfl) ?_
  refine r_vret dX9_init_226 rfl ?_
  obtain ⟨ok, eh⟩ := rule_heap (n := 0) (l := (r.1.1 ++ r.2.1.1 ++ r.2.2.1).length) (pa := nI r.1.1.length) (oa := nI (r.1.1 ++ r.2.1.1).length) (fb := fb) hE rfl hq1 h12 hq2
  have fin := hk q1 q2 fb s1 ok hB1 hB2 hl hfb hR
  rw [← eh] at fin
  exact fin
def InK (h0 : hH) (q : Nat) (r : (List Int32 × Ev) × (List Int32 × Ev) × (List Int32 × Ev)) (v : Option Value) (h' : hH) : Prop := v = none ∧ ∃ (am : XAd) (fb : Nat → Int32) (s1 : XSt), XOk am (ruU xS0 0 (r.1.1 ++ r.2.1.1 ++ r.2.2.1).length) ∧ am 9 0 = q ∧ (∀ c i, i < lim (ruU xS0 0 (r.1.1 ++ r.2.1.1 ++ r.2.2.1).length) c → h0 (am c i) = none) ∧ h' = xH h0 am (ruU xS0 0 (r.1.1 ++ r.2.1.1 ++ r.2.2.1).length) (ruS s1 0 (nI r.1.1.length) (nI (r.1.1 ++ r.2.1.1).length) fb) ∧ (r.1.1 ++ r.2.1.1 ++ r.2.2.1).length ≤ 160 ∧ (∀ j, j < (r.1.1 ++ r.2.1.1 ++ r.2.2.1).length → fb j = (r.1.1 ++ r.2.1.1 ++ r.2.2.1).getD j 0) ∧ RdS (sP 79) s1
theorem ru_fresh {h0 : hH} {am : XAd} {q1 q2 l : Nat} (hf : ∀ c i, i < lim xS0 c → h0 (am c i) = none) (h1 : h0 q1 = none) (h2 : h0 q2 = none) : ∀ c i, i < lim (ruU xS0 0 l) c → h0 (ruA am 0 q1 q2 c i) = none := by
  intro c i h
  unfold ruU at h
  rw [lim_5] at h
  by_cases z : c = 5 ∨ c = 32
  · rw [if_pos z] at h
    have i0 : i = 0 := by omega
    subst i0
    rcases z with rfl | rfl
    · rw [ruA_5]; exact h1
    · rw [ruA_32]; exact h2
  · rw [if_neg z] at h
    rw [ruA_o (fun y => z (Or.inl y.1)) (fun y => z (Or.inr y.1))]
    exact hf c i h
set_option maxRecDepth 100000 in
set_option maxHeartbeats 2000000 in
/-- the class is made -/
theorem mk_X9_init {g : GC} {h0 : hH} {q d : Nat} {r : (List Int32 × Ev) × (List Int32 × Ev) × (List Int32 × Ev)} (hX : GX g) (hd : 52 ≤ d) (hq : h0 q = none) (hr : textG t79 = .ok r) : AM g d 44 2047 yX9_init cX9_init 2 none [.ref q] (hu h0 q (.inr (9, [.null, .int 0, .null, .int 0, .null, .int 0, .int 0, .null, .null, .null, .null, .null, .null, .null, .null, .null, .null]))) (InK h0 q r) := by
  refine AM.of2 (own := RX9) (nm := "<init>") (L0 := [(0, .ref q)]) (by decide) rfl rfl (Nat.le_of_ble_eq_true rfl) rfl ?_
  refine r_aload_n dX9_init_0 rfl ?_
  refine r_objI dX9_init_1 ml_RX9_1 oi_i oi_c (Nat.le_of_ble_eq_true rfl) (by omega) ?_
  have oN : KO h0 [] := ⟨by simp, fun a ha => by simp at ha⟩
  have o0 : KO h0 [(q, .inr (9, [.null, .int 0, .null, .int 0, .null, .int 0, .int 0, .null, .null, .null, .null, .null, .null, .null, .null, .null, .null]))] := oN.new hq
  refine AW.hc (h' := kHp h0 [(q, .inr (9, [.null, .int 0, .null, .int 0, .null, .int 0, .int 0, .null, .null, .null, .null, .null, .null, .null, .null, .null, .null]))]) rfl ?_
  refine st_1 hX (by omega) o0 (fun a10 a11 a12 o1 => ?_)
  refine st_2 hX (by omega) o1 (fun bk b0 b1 b2 o2 => ?_)
  refine st_3 hX (by omega) o2 (fun lg l0 l1 l2 l3 l4 o3 => ?_)
  refine st_4 hX (by omega) o3 (fun rd r0 r1 o4 => ?_)
  refine st_5 hX (by omega) o4 (fun tg sh o5 => ?_)
  refine st_6 hX (by omega) o5 (fun im i0 i1 i2 i3 i4 o6 => ?_)
  refine st_7 hX (by omega) o6 (fun n15 n16 n17 n18 o7 => ?_)
  refine r_iconst (v := 0) dX9_init_125 (by decide) ?_
  refine r_istore_n dX9_init_126 (by decide) ?_
  refine r_loc (L' := [(1, .int (nI 0)), (0, .ref q)]) [0, 1] rfl ?_
  refine k_mid (x := (tg, .inl (6, 6, .inr (.inr (.inr (.inr (fun _ => none))))))) (A := [(q, .inr (9, [.ref a10, .int 0, .ref a11, .int 0, .ref a12, .int 0, .int 0, .ref bk, .ref lg, .ref rd, .ref tg, .ref sh, .ref im, .ref n15, .ref n16, .ref n17, .ref n18])), (n18, .inl (0, 10, .inl zF)), (n17, .inl (0, 10, .inl zF)), (n16, .inl (0, 160, .inl zF)), (n15, .inl (0, 6, .inl zF)), (i4, .inl (0, 3, .inl (fillF 3 100 zF))), (i3, .inl (0, 12, .inl (fillF 12 99 zF))), (i2, .inl (0, 12, .inl zF)), (i1, .inr (0, [.ref i2, .ref i3, .ref i4])), (i0, .inl (0, 8, .inl zF)), (im, .inr (2, [.ref i0, .ref i1, .int 0, .int 0, .int (-1)])), (sh, .inl (7, 4, .inr (.inr (.inr (.inr (fun _ => none))))))]) (B := (r1, .inl (0, 160, .inl zF)) :: (r0, .inl (1, 160, .inl zF)) :: (rd, .inr (4, [.ref r0, .ref r1, .int 0, .int (-1), .int 0, .int 0, .int 0, .int 0, .int 0])) :: (l4, .inl (0, 40, .inl zF)) :: (l3, .inl (0, 40, .inl zF)) :: (l2, .inl (0, 40, .inl zF)) :: (l1, .inl (0, 40, .inl zF)) :: (l0, .inl (0, 40, .inl zF)) :: (lg, .inr (3, [.ref l0, .ref l1, .ref l2, .ref l3, .ref l4, .int 0])) :: (b2, .inl (0, 3, .inl (fillF 3 100 zF))) :: (b1, .inl (0, 12, .inl (fillF 12 99 zF))) :: (b0, .inl (0, 12, .inl zF)) :: (bk, .inr (0, [.ref b0, .ref b1, .ref b2])) :: (a12, .inl (5, 6, .inr (.inr (.inr (.inr (fun _ => none)))))) :: (a11, .inl (4, 24, .inr (.inr (.inr (.inr (fun _ => none)))))) :: (a10, .inl (3, 8, .inr (.inr (.inr (.inr (fun _ => none)))))) :: []) o7 (fun o8 => ?_)
  refine k_mid (x := (q, .inr (9, [.ref a10, .int 0, .ref a11, .int 0, .ref a12, .int 0, .int 0, .ref bk, .ref lg, .ref rd, .ref tg, .ref sh, .ref im, .ref n15, .ref n16, .ref n17, .ref n18]))) (A := [(tg, .inl (6, 6, .inr (.inr (.inr (.inr (fun _ => none))))))]) (B := (n18, .inl (0, 10, .inl zF)) :: (n17, .inl (0, 10, .inl zF)) :: (n16, .inl (0, 160, .inl zF)) :: (n15, .inl (0, 6, .inl zF)) :: (i4, .inl (0, 3, .inl (fillF 3 100 zF))) :: (i3, .inl (0, 12, .inl (fillF 12 99 zF))) :: (i2, .inl (0, 12, .inl zF)) :: (i1, .inr (0, [.ref i2, .ref i3, .ref i4])) :: (i0, .inl (0, 8, .inl zF)) :: (im, .inr (2, [.ref i0, .ref i1, .int 0, .int 0, .int (-1)])) :: (sh, .inl (7, 4, .inr (.inr (.inr (.inr (fun _ => none)))))) :: (r1, .inl (0, 160, .inl zF)) :: (r0, .inl (1, 160, .inl zF)) :: (rd, .inr (4, [.ref r0, .ref r1, .int 0, .int (-1), .int 0, .int 0, .int 0, .int 0, .int 0])) :: (l4, .inl (0, 40, .inl zF)) :: (l3, .inl (0, 40, .inl zF)) :: (l2, .inl (0, 40, .inl zF)) :: (l1, .inl (0, 40, .inl zF)) :: (l0, .inl (0, 40, .inl zF)) :: (lg, .inr (3, [.ref l0, .ref l1, .ref l2, .ref l3, .ref l4, .int 0])) :: (b2, .inl (0, 3, .inl (fillF 3 100 zF))) :: (b1, .inl (0, 12, .inl (fillF 12 99 zF))) :: (b0, .inl (0, 12, .inl zF)) :: (bk, .inr (0, [.ref b0, .ref b1, .ref b2])) :: (a12, .inl (5, 6, .inr (.inr (.inr (.inr (fun _ => none)))))) :: (a11, .inl (4, 24, .inr (.inr (.inr (.inr (fun _ => none)))))) :: (a10, .inl (3, 8, .inr (.inr (.inr (.inr (fun _ => none)))))) :: []) o8 (fun o9 => ?_)
  refine it_t (c := 15) (n := 1200) (j := 0) hX (by omega) (by decide) o9 (fun t0 o10 => ?_)
  refine it_t (c := 14) (n := 1195) (j := 1) hX (by omega) (by decide) o10 (fun t1 o11 => ?_)
  refine it_t (c := 13) (n := 1190) (j := 2) hX (by omega) (by decide) o11 (fun t2 o12 => ?_)
  refine it_t (c := 12) (n := 1185) (j := 3) hX (by omega) (by decide) o12 (fun t3 o13 => ?_)
  refine it_t (c := 11) (n := 1180) (j := 4) hX (by omega) (by decide) o13 (fun t4 o14 => ?_)
  refine it_t (c := 10) (n := 1175) (j := 5) hX (by omega) (by decide) o14 (fun t5 o15 => ?_)
  refine r_iload_n dX9_init_127 rfl ?_
  refine r_bipush (v := 6) dX9_init_128 (by decide) ?_
  refine r_icmp_ge (tgt := 152) dX9_init_130 (by decide) (fun _ => ?_) (fun z => absurd (by decide) z)
  refine r_iconst (v := 0) dX9_init_152 (by decide) ?_
  refine r_istore_n dX9_init_153 (by decide) ?_
  refine r_loc (L' := [(1, .int (nI 0)), (0, .ref q)]) [0, 1] rfl ?_
  refine k_mid (x := (sh, .inl (7, 4, .inr (.inr (.inr (.inr (fun _ => none))))))) (A := [(q, .inr (9, [.ref a10, .int 0, .ref a11, .int 0, .ref a12, .int 0, .int 0, .ref bk, .ref lg, .ref rd, .ref tg, .ref sh, .ref im, .ref n15, .ref n16, .ref n17, .ref n18])), (tg, .inl (6, 6, .inr (.inr (.inr (.inr (va_up (va_up (va_up (va_up (va_up (va_up (fun _ => none) 0 (some t0)) 1 (some t1)) 2 (some t2)) 3 (some t3)) 4 (some t4)) 5 (some t5))))))), (t5, .inr (7, [.int 0, .int 0, .int 0, .int 0, .int 0])), (t4, .inr (7, [.int 0, .int 0, .int 0, .int 0, .int 0])), (t3, .inr (7, [.int 0, .int 0, .int 0, .int 0, .int 0])), (t2, .inr (7, [.int 0, .int 0, .int 0, .int 0, .int 0])), (t1, .inr (7, [.int 0, .int 0, .int 0, .int 0, .int 0])), (t0, .inr (7, [.int 0, .int 0, .int 0, .int 0, .int 0])), (n18, .inl (0, 10, .inl zF)), (n17, .inl (0, 10, .inl zF)), (n16, .inl (0, 160, .inl zF)), (n15, .inl (0, 6, .inl zF)), (i4, .inl (0, 3, .inl (fillF 3 100 zF))), (i3, .inl (0, 12, .inl (fillF 12 99 zF))), (i2, .inl (0, 12, .inl zF)), (i1, .inr (0, [.ref i2, .ref i3, .ref i4])), (i0, .inl (0, 8, .inl zF)), (im, .inr (2, [.ref i0, .ref i1, .int 0, .int 0, .int (-1)]))]) (B := (r1, .inl (0, 160, .inl zF)) :: (r0, .inl (1, 160, .inl zF)) :: (rd, .inr (4, [.ref r0, .ref r1, .int 0, .int (-1), .int 0, .int 0, .int 0, .int 0, .int 0])) :: (l4, .inl (0, 40, .inl zF)) :: (l3, .inl (0, 40, .inl zF)) :: (l2, .inl (0, 40, .inl zF)) :: (l1, .inl (0, 40, .inl zF)) :: (l0, .inl (0, 40, .inl zF)) :: (lg, .inr (3, [.ref l0, .ref l1, .ref l2, .ref l3, .ref l4, .int 0])) :: (b2, .inl (0, 3, .inl (fillF 3 100 zF))) :: (b1, .inl (0, 12, .inl (fillF 12 99 zF))) :: (b0, .inl (0, 12, .inl zF)) :: (bk, .inr (0, [.ref b0, .ref b1, .ref b2])) :: (a12, .inl (5, 6, .inr (.inr (.inr (.inr (fun _ => none)))))) :: (a11, .inl (4, 24, .inr (.inr (.inr (.inr (fun _ => none)))))) :: (a10, .inl (3, 8, .inr (.inr (.inr (.inr (fun _ => none)))))) :: []) o15 (fun o16 => ?_)
  refine k_mid (x := (q, .inr (9, [.ref a10, .int 0, .ref a11, .int 0, .ref a12, .int 0, .int 0, .ref bk, .ref lg, .ref rd, .ref tg, .ref sh, .ref im, .ref n15, .ref n16, .ref n17, .ref n18]))) (A := [(sh, .inl (7, 4, .inr (.inr (.inr (.inr (fun _ => none))))))]) (B := (tg, .inl (6, 6, .inr (.inr (.inr (.inr (va_up (va_up (va_up (va_up (va_up (va_up (fun _ => none) 0 (some t0)) 1 (some t1)) 2 (some t2)) 3 (some t3)) 4 (some t4)) 5 (some t5))))))) :: (t5, .inr (7, [.int 0, .int 0, .int 0, .int 0, .int 0])) :: (t4, .inr (7, [.int 0, .int 0, .int 0, .int 0, .int 0])) :: (t3, .inr (7, [.int 0, .int 0, .int 0, .int 0, .int 0])) :: (t2, .inr (7, [.int 0, .int 0, .int 0, .int 0, .int 0])) :: (t1, .inr (7, [.int 0, .int 0, .int 0, .int 0, .int 0])) :: (t0, .inr (7, [.int 0, .int 0, .int 0, .int 0, .int 0])) :: (n18, .inl (0, 10, .inl zF)) :: (n17, .inl (0, 10, .inl zF)) :: (n16, .inl (0, 160, .inl zF)) :: (n15, .inl (0, 6, .inl zF)) :: (i4, .inl (0, 3, .inl (fillF 3 100 zF))) :: (i3, .inl (0, 12, .inl (fillF 12 99 zF))) :: (i2, .inl (0, 12, .inl zF)) :: (i1, .inr (0, [.ref i2, .ref i3, .ref i4])) :: (i0, .inl (0, 8, .inl zF)) :: (im, .inr (2, [.ref i0, .ref i1, .int 0, .int 0, .int (-1)])) :: (r1, .inl (0, 160, .inl zF)) :: (r0, .inl (1, 160, .inl zF)) :: (rd, .inr (4, [.ref r0, .ref r1, .int 0, .int (-1), .int 0, .int 0, .int 0, .int 0, .int 0])) :: (l4, .inl (0, 40, .inl zF)) :: (l3, .inl (0, 40, .inl zF)) :: (l2, .inl (0, 40, .inl zF)) :: (l1, .inl (0, 40, .inl zF)) :: (l0, .inl (0, 40, .inl zF)) :: (lg, .inr (3, [.ref l0, .ref l1, .ref l2, .ref l3, .ref l4, .int 0])) :: (b2, .inl (0, 3, .inl (fillF 3 100 zF))) :: (b1, .inl (0, 12, .inl (fillF 12 99 zF))) :: (b0, .inl (0, 12, .inl zF)) :: (bk, .inr (0, [.ref b0, .ref b1, .ref b2])) :: (a12, .inl (5, 6, .inr (.inr (.inr (.inr (fun _ => none)))))) :: (a11, .inl (4, 24, .inr (.inr (.inr (.inr (fun _ => none)))))) :: (a10, .inl (3, 8, .inr (.inr (.inr (.inr (fun _ => none)))))) :: []) o16 (fun o17 => ?_)
  refine it_s (c := 8) (n := 1132) (j := 0) hX (by omega) (by decide) o17 (fun s0 u0 o18 => ?_)
  refine it_s (c := 6) (n := 1089) (j := 1) hX (by omega) (by decide) o18 (fun s1 u1 o19 => ?_)
  refine it_s (c := 4) (n := 1046) (j := 2) hX (by omega) (by decide) o19 (fun s2 u2 o20 => ?_)
  refine it_s (c := 2) (n := 1003) (j := 3) hX (by omega) (by decide) o20 (fun s3 u3 o21 => ?_)
  refine r_iload_n dX9_init_154 rfl ?_
  refine r_iconst (v := 4) dX9_init_155 (by decide) ?_
  refine r_icmp_ge (tgt := 178) dX9_init_156 (by decide) (fun _ => ?_) (fun z => absurd (by decide) z)
  refine r_iconst (v := 0) dX9_init_178 (by decide) ?_
  refine r_istore_n dX9_init_179 (by decide) ?_
  have eL := kL_at (q := q) (sh := sh) (u3 := u3) (s3 := s3) (u2 := u2) (s2 := s2) (u1 := u1) (s1 := s1) (u0 := u0) (s0 := s0) (tg := tg) (t5 := t5) (t4 := t4) (t3 := t3) (t2 := t2) (t1 := t1) (t0 := t0) (n18 := n18) (n17 := n17) (n16 := n16) (n15 := n15) (i4 := i4) (i3 := i3) (i2 := i2) (i1 := i1) (i0 := i0) (im := im) (r1 := r1) (r0 := r0) (rd := rd) (l4 := l4) (l3 := l3) (l2 := l2) (l1 := l1) (l0 := l0) (lg := lg) (b2 := b2) (b1 := b1) (b0 := b0) (bk := bk) (a12 := a12) (a11 := a11) (a10 := a10)
  have oL : KO h0 (kLs (amK kNm [q, sh, u3, s3, u2, s2, u1, s1, u0, s0, tg, t5, t4, t3, t2, t1, t0, n18, n17, n16, n15, i4, i3, i2, i1, i0, im, r1, r0, rd, l4, l3, l2, l1, l0, lg, b2, b1, b0, bk, a12, a11, a10])) := by rw [← eL]; exact o21
  refine AW.hc (congrArg (kHp h0) eL.symm) ?_
  have e9 : amK kNm [q, sh, u3, s3, u2, s2, u1, s1, u0, s0, tg, t5, t4, t3, t2, t1, t0, n18, n17, n16, n15, i4, i3, i2, i1, i0, im, r1, r0, rd, l4, l3, l2, l1, l0, lg, b2, b1, b0, bk, a12, a11, a10] 9 0 = q := rfl
  generalize amK kNm [q, sh, u3, s3, u2, s2, u1, s1, u0, s0, tg, t5, t4, t3, t2, t1, t0, n18, n17, n16, n15, i4, i3, i2, i1, i0, im, r1, r0, rd, l4, l3, l2, l1, l0, lg, b2, b1, b0, bk, a12, a11, a10] = am at oL e9 ⊢
  obtain ⟨hE, eX, hf⟩ := kA_xH oL (kL_is am) kN_lim
  refine AW.hc eX.symm ?_
  refine r_loc (L' := [(1, .int (nI 0)), (0, .ref (am 9 0))]) [0, 1] (by rw [e9]; rfl) ?_
  exact put_lp hE hX (by omega) (read_lp hE hX (by omega) hr (fun q1 q2 fb s1 ok hB1 hB2 hl hfb hR => ⟨rfl, ruA am 0 q1 q2, fb, s1, ok, (ruA_o (fun y => by cases y.1) (fun y => by cases y.1)).trans e9, ru_fresh hf hB1 hB2, rfl, hl, hfb, hR⟩)) 79 0 (by decide)

