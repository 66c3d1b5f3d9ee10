/-! the law's loop, its walk -/
theorem lt6 {Ls k : Nat} (hL : Ls ≤ 3072) (h : Ls < 6 * k + 6) (hk : 6 * k ≤ 10000 := by omega) : nI Ls - 6 < nI (6 * k) := by
  have t1 : (nI Ls - 6 : Int32).toInt = (Ls : Int) - 6 := pk_sub_toInt (a := Ls) (b := 6) (by omega) (by decide)
  refine Int32.lt_iff_toInt_lt.mpr ?_
  rw [t1, nI_toInt (by omega)]
  omega
set_option maxRecDepth 100000 in
set_option maxHeartbeats 2000000 in
theorem law_lp {g : GC} {E : ME} {q1 b Ls d : Nat} {xs : Nat → Int32} {nm : String} (hE : MEok E) (hG : GX g) (hd : 53 ≤ d) (hb : RT g .int b Ls (fun j => .int (xs j))) (hL : Ls ≤ 3072) : ∀ (m k : Nat) (h : hH), 6 * k ≤ 3072 → Ls < 6 * k + 6 * m + 6 → JI E q1 h → AW g R_law code 4 ret nm d (2 * m) (1003 * m) (fun v _ => v = some (.int 1)) 18 [(3, .int (nI (6 * k))), (2, .ref E.2.2), (1, .ref q1), (0, .ref b)] [] h := by
  intro m
  induction m with
  | zero =>
    intro k h hk6 hlt hJ
    refine r_iload_n d_law_18 rfl ?_
    refine r_aload_n d_law_19 rfl ?_
    refine r_tlen (v := nI Ls) d_law_20 hb rfl ?_
    refine r_bipush (v := 6) d_law_21 (by decide) ?_
    refine r_isub d_law_23 ?_
    refine r_icmp_gt (tgt := 1284) d_law_24 (by decide) (fun _ => ?_) (fun z => absurd (lt6 hL hlt) z)
    refine r_iconst (v := 1) d_law_1284 (by decide) ?_
    exact r_iret d_law_1285 rfl rfl rfl
  | succ m ih =>
    intro k h hk6 hlt hJ
    refine r_iload_n d_law_18 rfl ?_
    refine r_aload_n d_law_19 rfl ?_
    refine r_tlen (v := nI Ls) d_law_20 hb rfl ?_
    refine r_bipush (v := 6) d_law_21 (by decide) ?_
    refine r_isub d_law_23 ?_
    refine r_icmp_gt (tgt := 1284) d_law_24 (by decide) (fun _ => ?_) (fun z => ?_)
    · refine r_iconst (v := 1) d_law_1284 (by decide) ?_
      exact r_iret d_law_1285 rfl rfl rfl
    · have hk : 6 * k + 6 ≤ Ls := by
        rcases Nat.lt_or_ge Ls (6 * k + 6) with q | q
        · exact absurd (lt6 hL q) z
        · exact q
      have kk : ∀ h', JI E q1 h' → AW g R_law code 4 ret nm d (2 * m) (1003 * m) (fun v _ => v = some (.int 1)) 1278 [(3, .int (nI (6 * k))), (2, .ref E.2.2), (1, .ref q1), (0, .ref b)] [] h' := by
        intro h' hJ'
        refine r_iinc2 (w := 6) d_law_1278 rfl (by decide) (by decide) ?_
        refine r_goto (tgt := 18) d_law_1281 (by decide) ?_
        refine r_loc (L' := [(3, .int (nI (6 * (k + 1)))), (2, .ref E.2.2), (1, .ref q1), (0, .ref b)]) [0, 1, 2, 3] (by rw [show 6 * (k + 1) = 6 * k + 6 from by omega, ← nI_add]; rfl) ?_
        exact ih (k + 1) h' (by omega) (by omega) hJ'
      refine AW.bud (c' := 2 * m + 2) (n' := 1003 * m + 1003) (by omega) (by omega) ?_
      refine r_aload_n d_law_27 rfl ?_
      refine r_iload_n d_law_28 rfl ?_
      refine r_scr (j := 6 * k) hb hL d_law_29 rfl (by omega) ?_
      refine r_bipush (v := 31) d_law_30 (by decide) ?_
      refine r_iand d_law_32 ?_
      obtain ⟨j, hj, ej⟩ := pk_andE (xs (6 * k)) (m := 31) 5 rfl
      rw [ej]
      have hj' : j = 0 ∨ j = 1 ∨ j = 2 ∨ j = 3 ∨ j = 4 ∨ j = 5 ∨ j = 6 ∨ j = 7 ∨ j = 8 ∨ j = 9 ∨ j = 10 ∨ j = 11 ∨ j = 12 ∨ j = 13 ∨ j = 14 ∨ j = 15 ∨ j = 16 ∨ j = 17 ∨ j = 18 ∨ j = 19 ∨ j = 20 ∨ j = 21 ∨ j = 22 ∨ j = 23 ∨ j = 24 ∨ j = 25 ∨ j = 26 ∨ j = 27 ∨ j = 28 ∨ j = 29 ∨ j = 30 ∨ j = 31 := by omega
      rcases hj' with rfl | rfl | rfl | rfl | rfl | rfl | rfl | rfl | rfl | rfl | rfl | rfl | rfl | rfl | rfl | rfl | rfl | rfl | rfl | rfl | rfl | rfl | rfl | rfl | rfl | rfl | rfl | rfl | rfl | rfl | rfl | rfl
      · refine r_tabK (v := nI 0) (off := 139) (tgt := 172) d_law_33 rfl (by decide) (by decide) (by decide) (by decide) ?_
        exact lc_wine hE hG hd hb hL hk hJ kk
      · refine r_tabK (v := nI 1) (off := 192) (tgt := 225) d_law_33 rfl (by decide) (by decide) (by decide) (by decide) ?_
        exact lc_drunk hE hG hd hb hL hk hJ kk
      · refine r_tabK (v := nI 2) (off := 225) (tgt := 258) d_law_33 rfl (by decide) (by decide) (by decide) (by decide) ?_
        exact lc_book hE hG hd hb hL hk hJ kk
      · refine r_tabK (v := nI 3) (off := 278) (tgt := 311) d_law_33 rfl (by decide) (by decide) (by decide) (by decide) ?_
        exact lc_test hE hG hd hb hL hk hJ kk
      · refine r_tabK (v := nI 4) (off := 311) (tgt := 344) d_law_33 rfl (by decide) (by decide) (by decide) (by decide) ?_
        exact lc_bottle hE hG hd hb hL hk hJ kk
      · refine r_tabK (v := nI 5) (off := 354) (tgt := 387) d_law_33 rfl (by decide) (by decide) (by decide) (by decide) ?_
        exact lc_told hE hG hd hb hL hk hJ kk
      · refine r_tabK (v := nI 6) (off := 387) (tgt := 420) d_law_33 rfl (by decide) (by decide) (by decide) (by decide) ?_
        exact lc_shows hE hG hd hb hL hk hJ kk
      · refine r_tabK (v := nI 7) (off := 420) (tgt := 453) d_law_33 rfl (by decide) (by decide) (by decide) (by decide) ?_
        exact lc_sale hE hG hd hb hL hk hJ kk
      · refine r_tabK (v := nI 8) (off := 473) (tgt := 506) d_law_33 rfl (by decide) (by decide) (by decide) (by decide) ?_
        exact lc_feed hE hG hd hb hL hk hJ kk
      · refine r_tabK (v := nI 9) (off := 536) (tgt := 569) d_law_33 rfl (by decide) (by decide) (by decide) (by decide) ?_
        exact lc_text hE hG hd hb hL hk hJ kk
      · refine r_tabK (v := nI 10) (off := 549) (tgt := 582) d_law_33 rfl (by decide) (by decide) (by decide) (by decide) ?_
        exact lc_force hE hG hd hb hL hk hJ kk
      · refine r_tabK (v := nI 11) (off := 572) (tgt := 605) d_law_33 rfl (by decide) (by decide) (by decide) (by decide) ?_
        exact lc_left hE hG hd hb hL hk hJ kk
      · refine r_tabK (v := nI 12) (off := 605) (tgt := 638) d_law_33 rfl (by decide) (by decide) (by decide) (by decide) ?_
        exact lc_odds hE hG hd hb hL hk hJ kk
      · refine r_tabK (v := nI 13) (off := 639) (tgt := 672) d_law_33 rfl (by decide) (by decide) (by decide) (by decide) ?_
        exact lc_source hE hG hd hb hL hk hJ kk
      · refine r_tabK (v := nI 14) (off := 672) (tgt := 705) d_law_33 rfl (by decide) (by decide) (by decide) (by decide) ?_
        exact lc_worst hE hG hd hb hL hk hJ kk
      · refine r_tabK (v := nI 15) (off := 685) (tgt := 718) d_law_33 rfl (by decide) (by decide) (by decide) (by decide) ?_
        exact lc_mix hE hG hd hb hL hk hJ kk
      · refine r_tabK (v := nI 16) (off := 738) (tgt := 771) d_law_33 rfl (by decide) (by decide) (by decide) (by decide) ?_
        exact lc_said hE hG hd hb hL hk hJ kk
      · refine r_tabK (v := nI 17) (off := 791) (tgt := 824) d_law_33 rfl (by decide) (by decide) (by decide) (by decide) ?_
        exact lc_tongue hE hG hd hb hL hk hJ kk
      · refine r_tabK (v := nI 18) (off := 824) (tgt := 857) d_law_33 rfl (by decide) (by decide) (by decide) (by decide) ?_
        exact lc_opened hE hG hd hb hL hk hJ kk
      · refine r_tabK (v := nI 19) (off := 857) (tgt := 890) d_law_33 rfl (by decide) (by decide) (by decide) (by decide) ?_
        exact lc_owed hE hG hd hb hL hk hJ kk
      · refine r_tabK (v := nI 20) (off := 881) (tgt := 914) d_law_33 rfl (by decide) (by decide) (by decide) (by decide) ?_
        exact lc_chain hE hG hd hb hL hk hJ kk
      · refine r_tabK (v := nI 21) (off := 904) (tgt := 937) d_law_33 rfl (by decide) (by decide) (by decide) (by decide) ?_
        exact lc_falls hE hG hd hb hL hk hJ kk
      · refine r_tabK (v := nI 22) (off := 938) (tgt := 971) d_law_33 rfl (by decide) (by decide) (by decide) (by decide) ?_
        exact lc_saw hE hG hd hb hL hk hJ kk
      · refine r_tabK (v := nI 23) (off := 961) (tgt := 994) d_law_33 rfl (by decide) (by decide) (by decide) (by decide) ?_
        exact lc_image hE hG hd hb hL hk hJ kk
      · refine r_tabK (v := nI 24) (off := 974) (tgt := 1007) d_law_33 rfl (by decide) (by decide) (by decide) (by decide) ?_
        exact lc_back hE hG hd hb hL hk hJ kk
      · refine r_tabK (v := nI 25) (off := 987) (tgt := 1020) d_law_33 rfl (by decide) (by decide) (by decide) (by decide) ?_
        exact lc_count hE hG hd hb hL hk hJ kk
      · refine r_tabK (v := nI 26) (off := 1010) (tgt := 1043) d_law_33 rfl (by decide) (by decide) (by decide) (by decide) ?_
        exact lc_sheet hE hG hd hb hL hk hJ kk
      · refine r_tabK (v := nI 27) (off := 1053) (tgt := 1086) d_law_33 rfl (by decide) (by decide) (by decide) (by decide) ?_
        exact lc_cell hE hG hd hb hL hk hJ kk
      · refine r_tabK (v := nI 28) (off := 1096) (tgt := 1129) d_law_33 rfl (by decide) (by decide) (by decide) (by decide) ?_
        exact lc_copy hE hG hd hb hL hk hJ kk
      · refine r_tabK (v := nI 29) (off := 1159) (tgt := 1192) d_law_33 rfl (by decide) (by decide) (by decide) (by decide) ?_
        exact lc_sales hE hG hd hb hL hk hJ kk
      · refine r_tabK (v := nI 30) (off := 1212) (tgt := 1245) d_law_33 rfl (by decide) (by decide) (by decide) (by decide) ?_
        exact lc_taken hE hG hd hb hL hk hJ kk
      · refine r_tabOut (tgt := 1278) d_law_33 (Or.inr (by decide)) (by decide) ?_
        exact AW.less (by omega) (by omega) (kk h hJ)
theorem mH_base {h h' : hH} {am : Nat → Nat} {q : Nat} {τ : MSt} (e : ∀ a, a ≠ q → h a = h' a) : mH (h, am, q) τ = mH (h', am, q) τ := by
  funext a
  unfold mH
  dsimp only
  by_cases z : a = q
  · rw [if_pos z, if_pos z]
  · rw [if_neg z, if_neg z, e a z]
set_option maxRecDepth 100000 in
set_option maxHeartbeats 2000000 in
theorem law_aw {g : GC} {b Ls : Nat} {xs : Nat → Int32} {nm : String} (hG : GX g) (hb : RT g .int b Ls (fun j => .int (xs j))) (hL : Ls ≤ 3072) : AW g R_law code 4 ret nm 60 600000 7302250 (fun v _ => v = some (.int 1)) 0 [(0, .ref b)] [] (fun _ => none) := by
  obtain ⟨r, r', h79, h80, e1, e2, e3⟩ := chk_ok
  refine r_new d_law_0 nw_law_7 (by decide) (by decide) (fun q1 hq1 => ?_)
  refine r_dup d_law_3 rfl ?_
  refine r_callI (d1 := 59) (c1 := 44) (n1 := 2047) (As := []) d_law_4 mf_X9_init ml_law_9 (mk_X9_init hG (by decide) hq1 h79) rfl rfl (Nat.le_of_ble_eq_true rfl) (by decide) (by decide) (by decide) (fun v h' hh => ?_)
  obtain ⟨rfl, am, fb, s1, hX, h9, hf, rfl, hl, hfb, hR⟩ := hh
  have hA := init_al h80 e1 e2 e3 hl hfb hR
  generalize ruU xS0 0 (r.1.1 ++ r.2.1.1 ++ r.2.2.1).length = S at hX hf hA ⊢
  generalize ruS s1 0 (nI r.1.1.length) (nI (r.1.1 ++ r.2.1.1).length) fb = σ at hA ⊢
  refine r_astore_n d_law_7 (by decide) ?_
  refine r_new d_law_8 nw_law_10 (by decide) (by decide) (fun q2 hq2 => ?_)
  refine r_dup d_law_11 rfl ?_
  refine r_callI (d1 := 59) (c1 := 34) (n1 := 1938) (As := []) d_law_12 mf_X10_init ml_law_12 (mk_X10_init (by decide) (hu_eq _ _ _)) rfl rfl (Nat.le_of_ble_eq_true rfl) (by decide) (by decide) (by decide) (fun v h' hh => ?_)
  obtain ⟨rfl, am2, hE, hfr, rfl⟩ := hh
  have n2 : ∀ c i, i < lim S c → am c i ≠ q2 := fun c i h z => by rw [← z, xH_at hX _ h] at hq2; cases hq2
  have hD : Dj ((fun _ => none), am2, q2) am S := fun c i h => ⟨n2 c i h, fun k hk z => by
    have z' : am c i = am2 k := z
    have := hfr k hk
    rw [← z', hu_ne (n2 c i h), xH_at hX _ h] at this
    cases this⟩
  have hE' : MEok ((fun _ => none), am2, q2) := hE
  have ej : mH (hu (xH (fun _ => none) am S σ) q2 (.inr (10, [.int 0, .null, .null, .int 0, .int 0, .null, .int 0, .null, .null, .null, .null, .null, .int 0, .null, .null, .null, .null, .null, .null, .null, .int 0, .null, .null, .null, .null, .null, .int 0, .int 0, .int 0, .int 0, .int 0, .long 0, .int 0, .int 0, .int 0, .int 0, .int 0, .int 0, .int 0, .int 0, .int 0, .int 0, .null, .null, .null, .null, .null, .null, .null, .null, .null, .null, .int 0, .int 0, .int 0, .int 0, .null, .null, .null, .null])), am2, q2) (f_X10_init sz0) = xH (mH ((fun _ => none), am2, q2) (f_X10_init sz0)) am S σ := (mH_base (fun a z => hu_ne z)).trans (jh_comm (E := ((fun _ => none), am2, q2)) hX hD).symm
  refine r_astore_n d_law_15 (by decide) ?_
  refine r_iconst (v := 0) d_law_16 (by decide) ?_
  refine r_istore_n d_law_17 (by decide) ?_
  refine r_loc (L' := [(3, .int (nI (6 * 0))), (2, .ref q2), (1, .ref q1), (0, .ref b)]) [0, 1, 2, 3] rfl ?_
  refine AW.hc ej.symm ?_
  refine AW.less (c' := 2 * 512) (n' := 1003 * 512) (by decide) (by decide) ?_
  exact law_lp (E := ((fun _ => none), am2, q2)) hE' hG (by decide) hb hL 512 0 _ (by decide) (by omega) ⟨am, S, σ, f_X10_init sz0, hX, h9, hD, hA, rfl⟩
