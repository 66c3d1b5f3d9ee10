set_option maxRecDepth 100000 in
set_option maxHeartbeats 2000000 in
theorem one_fail {g : GC} {B : hH} {am : XAd} {S : XSh} {t : TB} {σ0 : XSt} {o d : Nat} {x : Sx2} {σ : XSt} {v : Int32} (hE : XOk am S) (hX : GX g) (hd : 6 ≤ d) (hv : σ.1 4 0 5 = v) (h12 : ¬ v = 12) (hn : v < 0 ∨ 5 < v) (hm : ¬ v = 45 ∨ 5 ≤ nI o) (hp : ¬ v = 40 ∨ 5 ≤ nI o) (hs : StX t σ0 x (f_X4_fail S σ)) : XW g B am S RX4 cX4_readOne 2 none "readOne" d (fun v σ' => v = none ∧ StX t σ0 x σ') 0 [(0, .ref (am 4 0)), (1, .int (nI o))] [] σ := by
  refine r_aload_n dX4_readOne_0 rfl ?_
  refine x_getI (c := 4) (x := v) hE (fun _ _ => rfl) (fun _ => rfl) dX4_readOne_1 fl_RX4_59 (Nat.le_of_ble_eq_true rfl) (hv) ?_
  refine r_bipush (v := (12 : Int32)) dX4_readOne_4 (by decide) ?_
  refine r_icmp_ne (tgt := 24) dX4_readOne_6 (by decide) (fun c1 => ?_) (fun c1 => ?_)
  · refine r_aload_n dX4_readOne_24 rfl ?_
    refine x_getI (c := 4) (x := v) hE (fun _ _ => rfl) (fun _ => rfl) dX4_readOne_25 fl_RX4_59 (Nat.le_of_ble_eq_true rfl) (hv) ?_
    refine r_if_lt (tgt := 56) dX4_readOne_28 (by decide) (fun c2 => ?_) (fun c2 => ?_)
    · refine r_aload_n dX4_readOne_56 rfl ?_
      refine x_getI (c := 4) (x := v) hE (fun _ _ => rfl) (fun _ => rfl) dX4_readOne_57 fl_RX4_59 (Nat.le_of_ble_eq_true rfl) (hv) ?_
      refine r_bipush (v := (45 : Int32)) dX4_readOne_60 (by decide) ?_
      refine r_icmp_ne (tgt := 90) dX4_readOne_62 (by decide) (fun c4 => ?_) (fun c4 => ?_)
      · refine r_aload_n dX4_readOne_90 rfl ?_
        refine x_getI (c := 4) (x := v) hE (fun _ _ => rfl) (fun _ => rfl) dX4_readOne_91 fl_RX4_59 (Nat.le_of_ble_eq_true rfl) (hv) ?_
        refine r_bipush (v := (40 : Int32)) dX4_readOne_94 (by decide) ?_
        refine r_icmp_ne (tgt := 124) dX4_readOne_96 (by decide) (fun c6 => ?_) (fun c6 => ?_)
        · refine r_aload_n dX4_readOne_124 rfl ?_
          refine x_callV0 (c := 4) (i := 0) hE (fun _ _ => rfl) (Nat.le_of_ble_eq_true rfl) dX4_readOne_125 mf_X4_fail ml_RX4_71 (ok_X4_fail (d := d - 1) hE hX (by omega) _) rfl rfl rfl rfl (Nat.le_of_ble_eq_true rfl) (by omega) ?_
          refine r_vret dX4_readOne_128 rfl ?_
          exact ⟨_, rfl, rfl, hs⟩
        · refine r_iload_n dX4_readOne_99 rfl ?_
          refine r_iconst (v := (5 : Int32)) dX4_readOne_100 (by decide) ?_
          refine r_icmp_ge (tgt := 124) dX4_readOne_101 (by decide) (fun c7 => ?_) (fun c7 => ?_)
          · refine r_aload_n dX4_readOne_124 rfl ?_
            refine x_callV0 (c := 4) (i := 0) hE (fun _ _ => rfl) (Nat.le_of_ble_eq_true rfl) dX4_readOne_125 mf_X4_fail ml_RX4_71 (ok_X4_fail (d := d - 1) hE hX (by omega) _) rfl rfl rfl rfl (Nat.le_of_ble_eq_true rfl) (by omega) ?_
            refine r_vret dX4_readOne_128 rfl ?_
            exact ⟨_, rfl, rfl, hs⟩
          · exact absurd (Or.resolve_left hp (fun z => z c6)) c7
      · refine r_iload_n dX4_readOne_65 rfl ?_
        refine r_iconst (v := (5 : Int32)) dX4_readOne_66 (by decide) ?_
        refine r_icmp_ge (tgt := 90) dX4_readOne_67 (by decide) (fun c5 => ?_) (fun c5 => ?_)
        · refine r_aload_n dX4_readOne_90 rfl ?_
          refine x_getI (c := 4) (x := v) hE (fun _ _ => rfl) (fun _ => rfl) dX4_readOne_91 fl_RX4_59 (Nat.le_of_ble_eq_true rfl) (hv) ?_
          refine r_bipush (v := (40 : Int32)) dX4_readOne_94 (by decide) ?_
          refine r_icmp_ne (tgt := 124) dX4_readOne_96 (by decide) (fun c6 => ?_) (fun c6 => ?_)
          · refine r_aload_n dX4_readOne_124 rfl ?_
            refine x_callV0 (c := 4) (i := 0) hE (fun _ _ => rfl) (Nat.le_of_ble_eq_true rfl) dX4_readOne_125 mf_X4_fail ml_RX4_71 (ok_X4_fail (d := d - 1) hE hX (by omega) _) rfl rfl rfl rfl (Nat.le_of_ble_eq_true rfl) (by omega) ?_
            refine r_vret dX4_readOne_128 rfl ?_
            exact ⟨_, rfl, rfl, hs⟩
          · refine r_iload_n dX4_readOne_99 rfl ?_
            refine r_iconst (v := (5 : Int32)) dX4_readOne_100 (by decide) ?_
            refine r_icmp_ge (tgt := 124) dX4_readOne_101 (by decide) (fun c7 => ?_) (fun c7 => ?_)
            · refine r_aload_n dX4_readOne_124 rfl ?_
              refine x_callV0 (c := 4) (i := 0) hE (fun _ _ => rfl) (Nat.le_of_ble_eq_true rfl) dX4_readOne_125 mf_X4_fail ml_RX4_71 (ok_X4_fail (d := d - 1) hE hX (by omega) _) rfl rfl rfl rfl (Nat.le_of_ble_eq_true rfl) (by omega) ?_
              refine r_vret dX4_readOne_128 rfl ?_
              exact ⟨_, rfl, rfl, hs⟩
            · exact absurd (Or.resolve_left hp (fun z => z c6)) c7
        · exact absurd (Or.resolve_left hm (fun z => z c4)) c5
    · refine r_aload_n dX4_readOne_31 rfl ?_
      refine x_getI (c := 4) (x := v) hE (fun _ _ => rfl) (fun _ => rfl) dX4_readOne_32 fl_RX4_59 (Nat.le_of_ble_eq_true rfl) (hv) ?_
      refine r_iconst (v := (5 : Int32)) dX4_readOne_35 (by decide) ?_
      refine r_icmp_gt (tgt := 56) dX4_readOne_36 (by decide) (fun c3 => ?_) (fun c3 => ?_)
      · refine r_aload_n dX4_readOne_56 rfl ?_
        refine x_getI (c := 4) (x := v) hE (fun _ _ => rfl) (fun _ => rfl) dX4_readOne_57 fl_RX4_59 (Nat.le_of_ble_eq_true rfl) (hv) ?_
        refine r_bipush (v := (45 : Int32)) dX4_readOne_60 (by decide) ?_
        refine r_icmp_ne (tgt := 90) dX4_readOne_62 (by decide) (fun c4 => ?_) (fun c4 => ?_)
        · refine r_aload_n dX4_readOne_90 rfl ?_
          refine x_getI (c := 4) (x := v) hE (fun _ _ => rfl) (fun _ => rfl) dX4_readOne_91 fl_RX4_59 (Nat.le_of_ble_eq_true rfl) (hv) ?_
          refine r_bipush (v := (40 : Int32)) dX4_readOne_94 (by decide) ?_
          refine r_icmp_ne (tgt := 124) dX4_readOne_96 (by decide) (fun c6 => ?_) (fun c6 => ?_)
          · refine r_aload_n dX4_readOne_124 rfl ?_
            refine x_callV0 (c := 4) (i := 0) hE (fun _ _ => rfl) (Nat.le_of_ble_eq_true rfl) dX4_readOne_125 mf_X4_fail ml_RX4_71 (ok_X4_fail (d := d - 1) hE hX (by omega) _) rfl rfl rfl rfl (Nat.le_of_ble_eq_true rfl) (by omega) ?_
            refine r_vret dX4_readOne_128 rfl ?_
            exact ⟨_, rfl, rfl, hs⟩
          · refine r_iload_n dX4_readOne_99 rfl ?_
            refine r_iconst (v := (5 : Int32)) dX4_readOne_100 (by decide) ?_
            refine r_icmp_ge (tgt := 124) dX4_readOne_101 (by decide) (fun c7 => ?_) (fun c7 => ?_)
            · refine r_aload_n dX4_readOne_124 rfl ?_
              refine x_callV0 (c := 4) (i := 0) hE (fun _ _ => rfl) (Nat.le_of_ble_eq_true rfl) dX4_readOne_125 mf_X4_fail ml_RX4_71 (ok_X4_fail (d := d - 1) hE hX (by omega) _) rfl rfl rfl rfl (Nat.le_of_ble_eq_true rfl) (by omega) ?_
              refine r_vret dX4_readOne_128 rfl ?_
              exact ⟨_, rfl, rfl, hs⟩
            · exact absurd (Or.resolve_left hp (fun z => z c6)) c7
        · refine r_iload_n dX4_readOne_65 rfl ?_
          refine r_iconst (v := (5 : Int32)) dX4_readOne_66 (by decide) ?_
          refine r_icmp_ge (tgt := 90) dX4_readOne_67 (by decide) (fun c5 => ?_) (fun c5 => ?_)
          · refine r_aload_n dX4_readOne_90 rfl ?_
            refine x_getI (c := 4) (x := v) hE (fun _ _ => rfl) (fun _ => rfl) dX4_readOne_91 fl_RX4_59 (Nat.le_of_ble_eq_true rfl) (hv) ?_
            refine r_bipush (v := (40 : Int32)) dX4_readOne_94 (by decide) ?_
            refine r_icmp_ne (tgt := 124) dX4_readOne_96 (by decide) (fun c6 => ?_) (fun c6 => ?_)
            · refine r_aload_n dX4_readOne_124 rfl ?_
              refine x_callV0 (c := 4) (i := 0) hE (fun _ _ => rfl) (Nat.le_of_ble_eq_true rfl) dX4_readOne_125 mf_X4_fail ml_RX4_71 (ok_X4_fail (d := d - 1) hE hX (by omega) _) rfl rfl rfl rfl (Nat.le_of_ble_eq_true rfl) (by omega) ?_
              refine r_vret dX4_readOne_128 rfl ?_
              exact ⟨_, rfl, rfl, hs⟩
            · refine r_iload_n dX4_readOne_99 rfl ?_
              refine r_iconst (v := (5 : Int32)) dX4_readOne_100 (by decide) ?_
              refine r_icmp_ge (tgt := 124) dX4_readOne_101 (by decide) (fun c7 => ?_) (fun c7 => ?_)
              · refine r_aload_n dX4_readOne_124 rfl ?_
                refine x_callV0 (c := 4) (i := 0) hE (fun _ _ => rfl) (Nat.le_of_ble_eq_true rfl) dX4_readOne_125 mf_X4_fail ml_RX4_71 (ok_X4_fail (d := d - 1) hE hX (by omega) _) rfl rfl rfl rfl (Nat.le_of_ble_eq_true rfl) (by omega) ?_
                refine r_vret dX4_readOne_128 rfl ?_
                exact ⟨_, rfl, rfl, hs⟩
              · exact absurd (Or.resolve_left hp (fun z => z c6)) c7
          · exact absurd (Or.resolve_left hm (fun z => z c4)) c5
      · exact absurd (Or.resolve_left hn c2) c3
  · exact absurd c1 h12
set_option maxRecDepth 100000 in
set_option maxHeartbeats 2000000 in
theorem xm_readOne {g : GC} {B : hH} {am : XAd} {S : XSh} {t : TB} {σ0 : XSt} {o d : Nat} {rO rE : Nat → Rs} (hE : XOk am S) (hX : GX g) (hT : XT σ0 t) (hd : 7 ≤ d) (ho : o ≤ 5) (hO : o < 5 → XMo g B am S (d - 1) t σ0 (o + 1) rO yX4_readOne cX4_readOne 2) (hR : o < 5 → XMo g B am S (d - 1) t σ0 (o + 1) rE yX4_readOr cX4_readOr 3) (hLO : o < 5 → LenG t rO) (hMO : o < 5 → Mono t rO) (hLE : o < 5 → LenG t rE) (hME : o < 5 → Mono t rE) : XMo g B am S d t σ0 o (oneG t (decide (o < 5)) rO rE) yX4_readOne cX4_readOne 2 := by
  have ht := hT.2.1
  intro x σ hs
  refine AM.of2 (own := RX4) (nm := "readOne") (L0 := [(0, .ref (am 4 0)), (1, .int (nI o))]) (by decide) rfl rfl (Nat.le_of_ble_eq_true rfl) rfl ?_
  cases x with
  | error y =>
    have k2 : ErX σ0 y σ := hs
    exact one_fail hE hX (by omega) k2.2.1 (by decide) (Or.inr (by decide)) (Or.inl (by decide)) (Or.inl (by decide)) (er_failX k2)
  | ok a =>
    obtain ⟨cs, p⟩ := a
    have hp := hs.2.1.1
    have hlen : cs.length ≤ p := hs.1
    have hq := (tk_le t p hp).2.1
    have hv := hs.2.1.2.1
    have h5 : ¬ o < 5 → (5 : Int32) ≤ nI o := fun q => nI_le (a := 5) (by omega) (by omega)
    have er : ErX σ0 (tk t p).2.1 (f_X4_fail S σ) := ok_fail ht hs.2
    by_cases cM : (tk t p).1 = 3 ∧ (tk t p).2.2.1 = 45
    · have cv : ctok (tk t p) = 45 := (ct_sg (tk_ok t p) (c := 45) (by decide)).mpr cM
      by_cases ho5 : o < 5
      · have e0 : oneG t (decide (o < 5)) rO rE p = (match rO (tk t p).2.2.2 with
          | .ok r => .ok (r.1 ++ [-100], (fun v => - r.2.1 v), r.2.2)
          | .error x => .error x) := by
          unfold oneG
          rw [if_pos cM, if_pos (decide_eq_true ho5)]
          rfl
        have hgt := tk_gt t p hp (Or.inr cM.1)
        have hs1 := ok_next (S := S) hT hs.2 (Or.inr (Or.inr cM.1))
        refine r_aload_n dX4_readOne_0 rfl ?_
        refine x_getI (c := 4) (x := 45) hE (fun _ _ => rfl) (fun _ => rfl) dX4_readOne_1 fl_RX4_59 (Nat.le_of_ble_eq_true rfl) (hv.trans cv) ?_
        refine r_bipush (v := (12 : Int32)) dX4_readOne_4 (by decide) ?_
        refine r_icmp_ne (tgt := 24) dX4_readOne_6 (by decide) (fun c1 => ?_) (fun c1 => ?_)
        · refine r_aload_n dX4_readOne_24 rfl ?_
          refine x_getI (c := 4) (x := 45) hE (fun _ _ => rfl) (fun _ => rfl) dX4_readOne_25 fl_RX4_59 (Nat.le_of_ble_eq_true rfl) (hv.trans cv) ?_
          refine r_if_lt (tgt := 56) dX4_readOne_28 (by decide) (fun c2 => ?_) (fun c2 => ?_)
          · exact absurd c2 (by decide)
          · refine r_aload_n dX4_readOne_31 rfl ?_
            refine x_getI (c := 4) (x := 45) hE (fun _ _ => rfl) (fun _ => rfl) dX4_readOne_32 fl_RX4_59 (Nat.le_of_ble_eq_true rfl) (hv.trans cv) ?_
            refine r_iconst (v := (5 : Int32)) dX4_readOne_35 (by decide) ?_
            refine r_icmp_gt (tgt := 56) dX4_readOne_36 (by decide) (fun c3 => ?_) (fun c3 => ?_)
            · refine r_aload_n dX4_readOne_56 rfl ?_
              refine x_getI (c := 4) (x := 45) hE (fun _ _ => rfl) (fun _ => rfl) dX4_readOne_57 fl_RX4_59 (Nat.le_of_ble_eq_true rfl) (hv.trans cv) ?_
              refine r_bipush (v := (45 : Int32)) dX4_readOne_60 (by decide) ?_
              refine r_icmp_ne (tgt := 90) dX4_readOne_62 (by decide) (fun c4 => ?_) (fun c4 => ?_)
              · exact absurd rfl c4
              · refine r_iload_n dX4_readOne_65 rfl ?_
                refine r_iconst (v := (5 : Int32)) dX4_readOne_66 (by decide) ?_
                refine r_icmp_ge (tgt := 90) dX4_readOne_67 (by decide) (fun c5 => ?_) (fun c5 => ?_)
                · exact absurd ((nI_leI (a := 5) (by decide) (by omega)).mp c5) (by omega)
                · refine r_aload_n dX4_readOne_70 rfl ?_
                  refine x_callV0 (c := 4) (i := 0) hE (fun _ _ => rfl) (Nat.le_of_ble_eq_true rfl) dX4_readOne_71 mf_X4_next ml_RX4_32 (ok_X4_next (d := d - 1) hE hX (by omega) _ (hs.2.size hT) hs.2.place) rfl rfl rfl rfl (Nat.le_of_ble_eq_true rfl) (by omega) ?_
                  refine r_aload_n dX4_readOne_74 rfl ?_
                  refine r_iload_n dX4_readOne_75 rfl ?_
                  refine r_iconst (v := (1 : Int32)) dX4_readOne_76 (by decide) ?_
                  refine r_iadd dX4_readOne_77 ?_
                  rw [nI_1]
                  refine x_call (c := 4) (i := 0) (As := [.int (nI (o + 1))]) hE (fun _ _ => rfl) (Nat.le_of_ble_eq_true rfl) dX4_readOne_78 mf_X4_readOne ml_RX4_80 (hO ho5 (.ok (cs, (tk t p).2.2.2)) _ ⟨by show cs.length ≤ _; omega, hs1⟩) rfl rfl rfl rfl (Nat.le_of_ble_eq_true rfl) (by omega) (fun v s1 k1 => ?_)
                  obtain ⟨rfl, k1⟩ := k1
                  refine r_aload_n dX4_readOne_81 rfl ?_
                  refine r_bipush (v := (-100 : Int32)) dX4_readOne_82 (by decide) ?_
                  cases e2 : rO (tk t p).2.2.2 with
                  | error y =>
                    have k2 : ErX σ0 y s1 := by
                        have := k1
                        unfold bd at this
                        dsimp only at this
                        rw [e2] at this
                        exact this
                    refine x_callV0 (c := 4) (i := 0) hE (fun _ _ => rfl) (Nat.le_of_ble_eq_true rfl) dX4_readOne_84 mf_X4_emit ml_RX4_62 (ok_X4_emit (d := d - 1) hE hX (by omega) _ _ k2.2.2.1) rfl rfl rfl rfl (Nat.le_of_ble_eq_true rfl) (by omega) ?_
                    refine r_goto (tgt := 128) dX4_readOne_87 (by decide) ?_
                    refine r_vret dX4_readOne_128 rfl ?_
                    exact ⟨_, rfl, rfl, by
                      show StX t σ0 (fin cs (oneG t (decide (o < 5)) rO rE p)) _
                      rw [e0, e2]
                      exact er_emit k2 _⟩
                  | ok r =>
                    have k2 : (cs ++ r.1).length ≤ r.2.2 ∧ OkX t σ0 (cs ++ r.1) r.2.2 s1 := by
                        have := k1
                        unfold bd at this
                        dsimp only at this
                        rw [e2] at this
                        exact this
                    have l1 := hLO ho5 _ hq _ e2
                    have m1 := (hMO ho5 _ hq).1 _ e2
                    have l3 : (cs ++ r.1).length = cs.length + r.1.length := List.length_append
                    refine x_callV0 (c := 4) (i := 0) hE (fun _ _ => rfl) (Nat.le_of_ble_eq_true rfl) dX4_readOne_84 mf_X4_emit ml_RX4_62 (ok_X4_emit (d := d - 1) hE hX (by omega) _ _ k2.2.cs) rfl rfl rfl rfl (Nat.le_of_ble_eq_true rfl) (by omega) ?_
                    refine r_goto (tgt := 128) dX4_readOne_87 (by decide) ?_
                    have hs3 := ok_emit (S := S) k2.2 (by omega) (-100 : Int32)
                    rw [List.append_assoc] at hs3
                    refine r_vret dX4_readOne_128 rfl ?_
                    exact ⟨_, rfl, rfl, by
                      show StX t σ0 (fin cs (oneG t (decide (o < 5)) rO rE p)) _
                      rw [e0, e2]
                      refine ⟨?_, hs3⟩
                      rw [← List.append_assoc, List.length_append]
                      show (cs ++ r.1).length + 1 ≤ r.2.2
                      omega⟩
            · exact absurd (by decide) c3
        · exact absurd c1 (by decide)
      · have e0 : oneG t (decide (o < 5)) rO rE p = .error (tk t p).2.1 := by
          unfold oneG
          rw [if_pos cM, decide_eq_false ho5, if_neg (by decide)]
        refine one_fail hE hX (by omega) (hv.trans cv) (by decide) (Or.inr (by decide)) (Or.inr (h5 ho5)) (Or.inl (by decide)) ?_
        show StX t σ0 (fin cs (oneG t (decide (o < 5)) rO rE p)) _
        rw [e0]
        exact er
    · by_cases cP : (tk t p).1 = 3 ∧ (tk t p).2.2.1 = 40
      · have cv : ctok (tk t p) = 40 := (ct_sg (tk_ok t p) (c := 40) (by decide)).mpr cP
        by_cases ho5 : o < 5
        · have e0 : oneG t (decide (o < 5)) rO rE p = (match rE (tk t p).2.2.2 with
            | .ok r => if (tk t r.2.2).1 = 3 ∧ (tk t r.2.2).2.2.1 = 41 then .ok (r.1, r.2.1, (tk t r.2.2).2.2.2) else .error (tk t r.2.2).2.1
            | .error x => .error x) := by
            unfold oneG
            rw [if_neg cM, if_pos cP, if_pos (decide_eq_true ho5)]
            rfl
          have hgt := tk_gt t p hp (Or.inr cP.1)
          have hs1 := ok_next (S := S) hT hs.2 (Or.inr (Or.inr cP.1))
          refine r_aload_n dX4_readOne_0 rfl ?_
          refine x_getI (c := 4) (x := 40) hE (fun _ _ => rfl) (fun _ => rfl) dX4_readOne_1 fl_RX4_59 (Nat.le_of_ble_eq_true rfl) (hv.trans cv) ?_
          refine r_bipush (v := (12 : Int32)) dX4_readOne_4 (by decide) ?_
          refine r_icmp_ne (tgt := 24) dX4_readOne_6 (by decide) (fun c1 => ?_) (fun c1 => ?_)
          · refine r_aload_n dX4_readOne_24 rfl ?_
            refine x_getI (c := 4) (x := 40) hE (fun _ _ => rfl) (fun _ => rfl) dX4_readOne_25 fl_RX4_59 (Nat.le_of_ble_eq_true rfl) (hv.trans cv) ?_
            refine r_if_lt (tgt := 56) dX4_readOne_28 (by decide) (fun c2 => ?_) (fun c2 => ?_)
            · exact absurd c2 (by decide)
            · refine r_aload_n dX4_readOne_31 rfl ?_
              refine x_getI (c := 4) (x := 40) hE (fun _ _ => rfl) (fun _ => rfl) dX4_readOne_32 fl_RX4_59 (Nat.le_of_ble_eq_true rfl) (hv.trans cv) ?_
              refine r_iconst (v := (5 : Int32)) dX4_readOne_35 (by decide) ?_
              refine r_icmp_gt (tgt := 56) dX4_readOne_36 (by decide) (fun c3 => ?_) (fun c3 => ?_)
              · refine r_aload_n dX4_readOne_56 rfl ?_
                refine x_getI (c := 4) (x := 40) hE (fun _ _ => rfl) (fun _ => rfl) dX4_readOne_57 fl_RX4_59 (Nat.le_of_ble_eq_true rfl) (hv.trans cv) ?_
                refine r_bipush (v := (45 : Int32)) dX4_readOne_60 (by decide) ?_
                refine r_icmp_ne (tgt := 90) dX4_readOne_62 (by decide) (fun c4 => ?_) (fun c4 => ?_)
                · refine r_aload_n dX4_readOne_90 rfl ?_
                  refine x_getI (c := 4) (x := 40) hE (fun _ _ => rfl) (fun _ => rfl) dX4_readOne_91 fl_RX4_59 (Nat.le_of_ble_eq_true rfl) (hv.trans cv) ?_
                  refine r_bipush (v := (40 : Int32)) dX4_readOne_94 (by decide) ?_
                  refine r_icmp_ne (tgt := 124) dX4_readOne_96 (by decide) (fun c6 => ?_) (fun c6 => ?_)
                  · exact absurd rfl c6
                  · refine r_iload_n dX4_readOne_99 rfl ?_
                    refine r_iconst (v := (5 : Int32)) dX4_readOne_100 (by decide) ?_
                    refine r_icmp_ge (tgt := 124) dX4_readOne_101 (by decide) (fun c7 => ?_) (fun c7 => ?_)
                    · exact absurd ((nI_leI (a := 5) (by decide) (by omega)).mp c7) (by omega)
                    · refine r_aload_n dX4_readOne_104 rfl ?_
                      refine x_callV0 (c := 4) (i := 0) hE (fun _ _ => rfl) (Nat.le_of_ble_eq_true rfl) dX4_readOne_105 mf_X4_next ml_RX4_32 (ok_X4_next (d := d - 1) hE hX (by omega) _ (hs.2.size hT) hs.2.place) rfl rfl rfl rfl (Nat.le_of_ble_eq_true rfl) (by omega) ?_
                      refine r_aload_n dX4_readOne_108 rfl ?_
                      refine r_iload_n dX4_readOne_109 rfl ?_
                      refine r_iconst (v := (1 : Int32)) dX4_readOne_110 (by decide) ?_
                      refine r_iadd dX4_readOne_111 ?_
                      rw [nI_1]
                      refine x_call (c := 4) (i := 0) (As := [.int (nI (o + 1))]) hE (fun _ _ => rfl) (Nat.le_of_ble_eq_true rfl) dX4_readOne_112 mf_X4_readOr ml_RX4_53 (hR ho5 (.ok (cs, (tk t p).2.2.2)) _ ⟨by show cs.length ≤ _; omega, hs1⟩) rfl rfl rfl rfl (Nat.le_of_ble_eq_true rfl) (by omega) (fun v s1 k1 => ?_)
                      obtain ⟨rfl, k1⟩ := k1
                      refine r_aload_n dX4_readOne_115 rfl ?_
                      refine r_bipush (v := (41 : Int32)) dX4_readOne_116 (by decide) ?_
                      refine x_call (c := 4) (i := 0) (As := [.int ((41 : Int32))]) hE (fun _ _ => rfl) (Nat.le_of_ble_eq_true rfl) dX4_readOne_118 mf_X4_take ml_RX4_39 (xm_take (d := d - 1) hE hX hT (by omega) (by decide) _ _ k1) rfl rfl rfl rfl (Nat.le_of_ble_eq_true rfl) (by omega) (fun v s2 k3 => ?_)
                      obtain ⟨rfl, k3⟩ := k3
                      refine r_goto (tgt := 128) dX4_readOne_121 (by decide) ?_
                      have ef : fin cs (oneG t (decide (o < 5)) rO rE p) = tkG t 41 (bd (.ok (cs, (tk t p).2.2.2)) rE) := by
                        rw [e0]
                        show _ = tkG t 41 (fin cs (rE (tk t p).2.2.2))
                        cases e2 : rE (tk t p).2.2.2 with
                        | error y => rfl
                        | ok r =>
                          have h41 := ct_sg (tk_ok t r.2.2) (c := 41) (by decide)
                          show fin cs (if _ then _ else _) = (if ctok (tk t r.2.2) = 41 then _ else _)
                          by_cases z : (tk t r.2.2).1 = 3 ∧ (tk t r.2.2).2.2.1 = 41
                          · rw [if_pos z, if_pos (h41.mpr z)]
                            rfl
                          · rw [if_neg z, if_neg (fun y => z (h41.mp y))]
                            rfl
                      refine r_vret dX4_readOne_128 rfl ?_
                      exact ⟨_, rfl, rfl, by
                        show StX t σ0 (fin cs (oneG t (decide (o < 5)) rO rE p)) _
                        rw [ef]
                        exact k3⟩
                · exact absurd c4 (by decide)
              · exact absurd (by decide) c3
          · exact absurd c1 (by decide)
        · have e0 : oneG t (decide (o < 5)) rO rE p = .error (tk t p).2.1 := by
            unfold oneG
            rw [if_neg cM, if_pos cP, decide_eq_false ho5, if_neg (by decide)]
          refine one_fail hE hX (by omega) (hv.trans cv) (by decide) (Or.inr (by decide)) (Or.inl (by decide)) (Or.inr (h5 ho5)) ?_
          show StX t σ0 (fin cs (oneG t (decide (o < 5)) rO rE p)) _
          rw [e0]
          exact er
      · by_cases cN : (tk t p).1 = 2
        · have cv : ctok (tk t p) = 12 := (ct_12 (tk_ok t p)).mpr cN
          have e0 : oneG t (decide (o < 5)) rO rE p = .ok ([(tk t p).2.2.1.toInt32], (fun _ => (tk t p).2.2.1.toInt32), (tk t p).2.2.2) := by
            unfold oneG
            rw [if_neg cM, if_neg cP, if_pos cN]
          have hgt := tk_gt2 t p cN
          have hs1 := ok_emit (S := S) hs.2 (by have := tk_lt hp (Or.inr (Or.inl cN)); show cs.length < 160; omega) (tk t p).2.2.1.toInt32
          refine r_aload_n dX4_readOne_0 rfl ?_
          refine x_getI (c := 4) (x := 12) hE (fun _ _ => rfl) (fun _ => rfl) dX4_readOne_1 fl_RX4_59 (Nat.le_of_ble_eq_true rfl) (hv.trans cv) ?_
          refine r_bipush (v := (12 : Int32)) dX4_readOne_4 (by decide) ?_
          refine r_icmp_ne (tgt := 24) dX4_readOne_6 (by decide) (fun c1 => ?_) (fun c1 => ?_)
          · exact absurd rfl c1
          · refine r_aload_n dX4_readOne_9 rfl ?_
            refine r_aload_n dX4_readOne_10 rfl ?_
            refine x_getI (c := 4) (x := (tk t p).2.2.1.toInt32) hE (fun _ _ => rfl) (fun _ => rfl) dX4_readOne_11 fl_RX4_83 (Nat.le_of_ble_eq_true rfl) (hs.2.1.2.2.2.2 cN) ?_
            refine x_callV0 (c := 4) (i := 0) hE (fun _ _ => rfl) (Nat.le_of_ble_eq_true rfl) dX4_readOne_14 mf_X4_emit ml_RX4_62 (ok_X4_emit (d := d - 1) hE hX (by omega) _ _ hs.2.cs) rfl rfl rfl rfl (Nat.le_of_ble_eq_true rfl) (by omega) ?_
            refine r_aload_n dX4_readOne_17 rfl ?_
            refine x_callV0 (c := 4) (i := 0) hE (fun _ _ => rfl) (Nat.le_of_ble_eq_true rfl) dX4_readOne_18 mf_X4_next ml_RX4_32 (ok_X4_next (d := d - 1) hE hX (by omega) _ (hs1.size hT) hs1.place) rfl rfl rfl rfl (Nat.le_of_ble_eq_true rfl) (by omega) ?_
            refine r_goto (tgt := 128) dX4_readOne_21 (by decide) ?_
            have hs2 := ok_next (S := S) hT hs1 (Or.inr (Or.inl cN))
            refine r_vret dX4_readOne_128 rfl ?_
            exact ⟨_, rfl, rfl, by
              show StX t σ0 (fin cs (oneG t (decide (o < 5)) rO rE p)) _
              rw [e0]
              refine ⟨?_, hs2⟩
              rw [List.length_append]
              show cs.length + 1 ≤ (tk t p).2.2.2
              omega⟩
        · by_cases cW : (tk t p).1 = 1
          · rcases wtok_nm (tk t p).2.2.1 with ⟨i, hi, hn, hw⟩ | ⟨hn, j, hj1, hj2, hw⟩
            · have cv : ctok (tk t p) = nI i := (ct1 cW).trans hw
              have e0 : oneG t (decide (o < 5)) rO rE p = .ok ([-1 - nI i], (fun v => v i), (tk t p).2.2.2) := by
                unfold oneG
                rw [if_neg cM, if_neg cP, if_neg cN, if_pos cW, hn]
              have hgt := tk_gt t p hp (Or.inl cW)
              have hs1 := ok_emit (S := S) hs.2 (by have := tk_lt hp (Or.inl cW); show cs.length < 160; omega) (-1 - nI i)
              refine r_aload_n dX4_readOne_0 rfl ?_
              refine x_getI (c := 4) (x := (nI i)) hE (fun _ _ => rfl) (fun _ => rfl) dX4_readOne_1 fl_RX4_59 (Nat.le_of_ble_eq_true rfl) (hv.trans cv) ?_
              refine r_bipush (v := (12 : Int32)) dX4_readOne_4 (by decide) ?_
              refine r_icmp_ne (tgt := 24) dX4_readOne_6 (by decide) (fun c1 => ?_) (fun c1 => ?_)
              · refine r_aload_n dX4_readOne_24 rfl ?_
                refine x_getI (c := 4) (x := (nI i)) hE (fun _ _ => rfl) (fun _ => rfl) dX4_readOne_25 fl_RX4_59 (Nat.le_of_ble_eq_true rfl) (hv.trans cv) ?_
                refine r_if_lt (tgt := 56) dX4_readOne_28 (by decide) (fun c2 => ?_) (fun c2 => ?_)
                · exact absurd c2 (nI_pos (by omega))
                · refine r_aload_n dX4_readOne_31 rfl ?_
                  refine x_getI (c := 4) (x := (nI i)) hE (fun _ _ => rfl) (fun _ => rfl) dX4_readOne_32 fl_RX4_59 (Nat.le_of_ble_eq_true rfl) (hv.trans cv) ?_
                  refine r_iconst (v := (5 : Int32)) dX4_readOne_35 (by decide) ?_
                  refine r_icmp_gt (tgt := 56) dX4_readOne_36 (by decide) (fun c3 => ?_) (fun c3 => ?_)
                  · exact absurd ((nI_ltI (a := 5) (by decide) (by omega)).mp c3) (by omega)
                  · refine r_aload_n dX4_readOne_39 rfl ?_
                    refine r_iconst (v := (-1 : Int32)) dX4_readOne_40 (by decide) ?_
                    refine r_aload_n dX4_readOne_41 rfl ?_
                    refine x_getI (c := 4) (x := (nI i)) hE (fun _ _ => rfl) (fun _ => rfl) dX4_readOne_42 fl_RX4_59 (Nat.le_of_ble_eq_true rfl) (hv.trans cv) ?_
                    refine r_isub dX4_readOne_45 ?_
                    refine x_callV0 (c := 4) (i := 0) hE (fun _ _ => rfl) (Nat.le_of_ble_eq_true rfl) dX4_readOne_46 mf_X4_emit ml_RX4_62 (ok_X4_emit (d := d - 1) hE hX (by omega) _ _ hs.2.cs) rfl rfl rfl rfl (Nat.le_of_ble_eq_true rfl) (by omega) ?_
                    refine r_aload_n dX4_readOne_49 rfl ?_
                    refine x_callV0 (c := 4) (i := 0) hE (fun _ _ => rfl) (Nat.le_of_ble_eq_true rfl) dX4_readOne_50 mf_X4_next ml_RX4_32 (ok_X4_next (d := d - 1) hE hX (by omega) _ (hs1.size hT) hs1.place) rfl rfl rfl rfl (Nat.le_of_ble_eq_true rfl) (by omega) ?_
                    refine r_goto (tgt := 128) dX4_readOne_53 (by decide) ?_
                    have hs2 := ok_next (S := S) hT hs1 (Or.inl cW)
                    refine r_vret dX4_readOne_128 rfl ?_
                    exact ⟨_, rfl, rfl, by
                      show StX t σ0 (fin cs (oneG t (decide (o < 5)) rO rE p)) _
                      rw [e0]
                      refine ⟨?_, hs2⟩
                      rw [List.length_append]
                      show cs.length + 1 ≤ (tk t p).2.2.2
                      omega⟩
              · exact absurd c1 (fun z => by have := (nI_eq (b := 12) (by omega) (by decide)).mp z; omega)
            · have cv : ctok (tk t p) = nI j := (ct1 cW).trans hw
              have e0 : oneG t (decide (o < 5)) rO rE p = .error (tk t p).2.1 := by
                unfold oneG
                rw [if_neg cM, if_neg cP, if_neg cN, if_pos cW, hn]
              have nk : ∀ j, j < 15 → 6 ≤ j → ¬ nI j = 45 ∧ ¬ nI j = 40 ∧ 5 < nI j := by decide
              obtain ⟨n1, n2, n3⟩ := nk j hj2 hj1
              refine one_fail hE hX (by omega) (hv.trans cv) (fun z => cN ((ct_12 (tk_ok t p)).mp (cv.trans z))) (Or.inr n3) (Or.inl n1) (Or.inl n2) ?_
              show StX t σ0 (fin cs (oneG t (decide (o < 5)) rO rE p)) _
              rw [e0]
              exact er
          · have e0 : oneG t (decide (o < 5)) rO rE p = .error (tk t p).2.1 := by
              unfold oneG
              rw [if_neg cM, if_neg cP, if_neg cN, if_neg cW]
            have c45 : ¬ ctok (tk t p) = 45 := fun z => cM ((ct_sg (tk_ok t p) (c := 45) (by decide)).mp z)
            have c40 : ¬ ctok (tk t p) = 40 := fun z => cP ((ct_sg (tk_ok t p) (c := 40) (by decide)).mp z)
            have c5 : 5 < ctok (tk t p) := by
              rcases tk_ok t p with h | h | h | ⟨h, c, hc, e⟩ | h
              · rw [ct0 h]; decide
              · exact absurd h cW
              · exact absurd h cN
              · rw [ct3' h, e, Int32.toInt32_toInt64]
                unfold isSg at hc
                simp only [Bool.or_eq_true, decide_eq_true_eq] at hc
                rcases hc with ((((((rfl | rfl) | rfl) | rfl) | rfl) | rfl) | rfl) | rfl <;> decide
              · rw [ct4 h]; decide
            refine one_fail hE hX (by omega) hv (fun z => cN ((ct_12 (tk_ok t p)).mp z)) (Or.inr c5) (Or.inl c45) (Or.inl c40) ?_
            show StX t σ0 (fin cs (oneG t (decide (o < 5)) rO rE p)) _
            rw [e0]
            exact er
set_option maxRecDepth 100000 in
set_option maxHeartbeats 2000000 in
theorem xm_gram {g : GC} {B : hH} {am : XAd} {S : XSh} {t : TB} {σ0 : XSt} (hE : XOk am S) (hX : GX g) (hT : XT σ0 t) : ∀ k, k ≤ 5 → (∀ d, 7 + 7 * k ≤ d → XMo g B am S d t σ0 (5 - k) (gram t k).1 yX4_readOne cX4_readOne 2) ∧ (∀ d, 13 + 7 * k ≤ d → XMo g B am S d t σ0 (5 - k) (gram t k).2.1 yX4_readOr cX4_readOr 3) ∧ (∀ d, 11 + 7 * k ≤ d → XMo g B am S d t σ0 (5 - k) (gram t k).2.2 yX4_readNot cX4_readNot 2) := by
  have ht := hT.2.1
  have step : ∀ (o D : Nat) (rO rE rN : Nat → Rs), o ≤ 5 → 7 ≤ D → (o < 5 → ∀ d, D - 1 ≤ d → XMo g B am S d t σ0 (o + 1) rO yX4_readOne cX4_readOne 2) → (o < 5 → ∀ d, D - 1 ≤ d → XMo g B am S d t σ0 (o + 1) rE yX4_readOr cX4_readOr 3) → (o < 5 → ∀ d, D + 3 ≤ d → XMo g B am S d t σ0 (o + 1) rN yX4_readNot cX4_readNot 2) → (o < 5 → LenG t rO ∧ Mono t rO ∧ LenG t rE ∧ Mono t rE ∧ LenG t rN ∧ Mono t rN) → LenG t (oneG t (decide (o < 5)) rO rE) → Mono t (oneG t (decide (o < 5)) rO rE) → LenG t (notG t (decide (o < 5)) rN (addG t (oneG t (decide (o < 5)) rO rE))) → Mono t (notG t (decide (o < 5)) rN (addG t (oneG t (decide (o < 5)) rO rE))) →
      (∀ d, D ≤ d → XMo g B am S d t σ0 o (oneG t (decide (o < 5)) rO rE) yX4_readOne cX4_readOne 2) ∧ (∀ d, D + 6 ≤ d → XMo g B am S d t σ0 o (eitherG t (notG t (decide (o < 5)) rN (addG t (oneG t (decide (o < 5)) rO rE)))) yX4_readOr cX4_readOr 3) ∧ (∀ d, D + 4 ≤ d → XMo g B am S d t σ0 o (notG t (decide (o < 5)) rN (addG t (oneG t (decide (o < 5)) rO rE))) yX4_readNot cX4_readNot 2) := by
    intro o D rO rE rN ho hD pO pE pN hG l1 m1 l3 m3
    have h1 : ∀ d, D ≤ d → XMo g B am S d t σ0 o (oneG t (decide (o < 5)) rO rE) yX4_readOne cX4_readOne 2 := fun d hd => xm_readOne hE hX hT (by omega) ho (fun q => pO q (d - 1) (by omega)) (fun q => pE q (d - 1) (by omega)) (fun q => (hG q).1) (fun q => (hG q).2.1) (fun q => (hG q).2.2.1) (fun q => (hG q).2.2.2.1)
    have l2 := LenG.chain l1 m1 opMul_ok
    have m2 := Mono.chain ht m1 opMul_ok
    have lA : LenG t (addG t (oneG t (decide (o < 5)) rO rE)) := LenG.chain l2 m2 opAdd_ok
    have mA : Mono t (addG t (oneG t (decide (o < 5)) rO rE)) := Mono.chain ht m2 opAdd_ok
    have h2 : ∀ d, D + 1 ≤ d → XMo g B am S d t σ0 o (chainG t opMul (oneG t (decide (o < 5)) rO rE)) yX4_readTerm cX4_readTerm 3 := fun d hd => xm_readTerm hE hX hT (by omega) (h1 (d - 1) (by omega)) l1 m1
    have h3 : ∀ d, D + 2 ≤ d → XMo g B am S d t σ0 o (addG t (oneG t (decide (o < 5)) rO rE)) yX4_readSum cX4_readSum 4 := fun d hd => xm_readSum hE hX hT (by omega) (h2 (d - 1) (by omega)) l2 m2
    have h4 : ∀ d, D + 3 ≤ d → XMo g B am S d t σ0 o (cmpG t (addG t (oneG t (decide (o < 5)) rO rE))) yX4_readCompared cX4_readCompared 3 := fun d hd => xm_readCompared hE hX hT (by omega) (h3 (d - 1) (by omega)) lA mA
    have h5 : ∀ d, D + 4 ≤ d → XMo g B am S d t σ0 o (notG t (decide (o < 5)) rN (addG t (oneG t (decide (o < 5)) rO rE))) yX4_readNot cX4_readNot 2 := fun d hd => xm_readNot hE hX hT (by omega) ho (fun q => pN q (d - 1) (by omega)) (h4 (d - 1) (by omega)) (fun q => (hG q).2.2.2.2.1) (fun q => (hG q).2.2.2.2.2)
    have h6 : ∀ d, D + 5 ≤ d → XMo g B am S d t σ0 o (chainG t opAnd (notG t (decide (o < 5)) rN (addG t (oneG t (decide (o < 5)) rO rE)))) yX4_readAnd cX4_readAnd 3 := fun d hd => xm_readAnd hE hX hT (by omega) (h5 (d - 1) (by omega)) l3 m3
    exact ⟨h1, fun d hd => xm_readOr hE hX hT (by omega) (h6 (d - 1) (by omega)) (LenG.chain l3 m3 opAnd_ok) (Mono.chain ht m3 opAnd_ok), h5⟩
  intro k
  induction k with
  | zero =>
    intro _
    have l := gram_len t ht 0
    have m := gram_mono t ht 0
    exact step 5 7 (fun _ => .error 0) (fun _ => .error 0) (fun _ => .error 0) (by omega) (by omega) (fun q => absurd q (by decide)) (fun q => absurd q (by decide)) (fun q => absurd q (by decide)) (fun q => absurd q (by decide)) l.1 m.1 l.2.2 m.2.2
  | succ k ih =>
    intro hk
    obtain ⟨i1, i2, i3⟩ := ih (by omega)
    have e5 : 5 - (k + 1) + 1 = 5 - k := by omega
    have dt : decide (5 - (k + 1) < 5) = true := decide_eq_true (by omega)
    have l := gram_len t ht k
    have m := gram_mono t ht k
    have l' := gram_len t ht (k + 1)
    have m' := gram_mono t ht (k + 1)
    have := step (5 - (k + 1)) (7 + 7 * (k + 1)) (gram t k).1 (gram t k).2.1 (gram t k).2.2 (by omega) (by omega) (fun _ d hd => by rw [e5]; exact i1 d (by omega)) (fun _ d hd => by rw [e5]; exact i2 d (by omega)) (fun _ d hd => by rw [e5]; exact i3 d (by omega)) (fun _ => ⟨l.1, m.1, l.2.1, m.2.1, l.2.2, m.2.2⟩) (by rw [dt]; exact l'.1) (by rw [dt]; exact m'.1) (by rw [dt]; exact l'.2.2) (by rw [dt]; exact m'.2.2)
    rw [dt] at this
    exact ⟨fun d hd => this.1 d (by omega), fun d hd => this.2.1 d (by omega), fun d hd => this.2.2 d (by omega)⟩
set_option maxRecDepth 100000 in
set_option maxHeartbeats 2000000 in
theorem xm_readClause {g : GC} {B : hH} {am : XAd} {S : XSh} {t : TB} {σ0 : XSt} {d : Nat} {w : Int32} {K : Int64} (hE : XOk am S) (hX : GX g) (hT : XT σ0 t) (hd : 49 ≤ d) (hw : ¬ w = 14) (hk : ∀ p, ctok (tk t p) = w ↔ (tk t p).1 = 1 ∧ (tk t p).2.2.1 = K) (x : Sx2) (σ : XSt) (hs : StX t σ0 x σ) : XC g B am S d yX4_readClause cX4_readClause 2 none [.ref (am 4 0), .int w] (fun v σ' => v = none ∧ StX t σ0 (bd x (partG t K)) σ') σ := by
  have hF := (xm_gram (B := B) hE hX hT 5 (by omega)).2.1 (d - 1) (by omega)
  refine AM.of2 (own := RX4) (nm := "readClause") (L0 := [(0, .ref (am 4 0)), (1, .int w)]) (by decide) rfl rfl (Nat.le_of_ble_eq_true rfl) rfl ?_
  refine r_aload_n dX4_readClause_0 rfl ?_
  refine r_iload_n dX4_readClause_1 rfl ?_
  refine x_call (c := 4) (i := 0) (As := [.int (w)]) hE (fun _ _ => rfl) (Nat.le_of_ble_eq_true rfl) dX4_readClause_2 mf_X4_take ml_RX4_39 (xm_take (d := d - 1) hE hX hT (by omega) hw x _ hs) rfl rfl rfl rfl (Nat.le_of_ble_eq_true rfl) (by omega) (fun v s1 k1 => ?_)
  obtain ⟨rfl, k1⟩ := k1
  refine r_aload_n dX4_readClause_5 rfl ?_
  refine r_iconst (v := (0 : Int32)) dX4_readClause_6 (by decide) ?_
  refine x_call (c := 4) (i := 0) (As := [.int ((0 : Int32))]) hE (fun _ _ => rfl) (Nat.le_of_ble_eq_true rfl) dX4_readClause_7 mf_X4_readOr ml_RX4_53 (hF _ _ k1) rfl rfl rfl rfl (Nat.le_of_ble_eq_true rfl) (by omega) (fun v s2 k2 => ?_)
  obtain ⟨rfl, k2⟩ := k2
  refine r_aload_n dX4_readClause_10 rfl ?_
  refine r_bipush (v := (59 : Int32)) dX4_readClause_11 (by decide) ?_
  refine x_call (c := 4) (i := 0) (As := [.int ((59 : Int32))]) hE (fun _ _ => rfl) (Nat.le_of_ble_eq_true rfl) dX4_readClause_13 mf_X4_take ml_RX4_39 (xm_take (d := d - 1) (w := 59) hE hX hT (by omega) (by decide) _ _ k2) rfl rfl rfl rfl (Nat.le_of_ble_eq_true rfl) (by omega) (fun v s3 k3 => ?_)
  obtain ⟨rfl, k3⟩ := k3
  have ef : bd x (partG t K) = tkG t 59 (bd (tkG t w x) (gram t 5).2.1) := by
    cases x with
    | error y => rfl
    | ok a =>
      obtain ⟨cs, p⟩ := a
      show fin cs (partG t K p) = tkG t 59 (bd (if ctok (tk t p) = w then _ else _) _)
      unfold partG
      by_cases q : (tk t p).1 = 1 ∧ (tk t p).2.2.1 = K
      · rw [if_pos q, if_pos ((hk p).mpr q)]
        show _ = tkG t 59 (fin cs ((gram t 5).2.1 (tk t p).2.2.2))
        cases e2 : (gram t 5).2.1 (tk t p).2.2.2 with
        | error y => rfl
        | ok r =>
          have h59 := ct_sg (tk_ok t r.2.2) (c := 59) (by decide)
          show fin cs (if _ then _ else _) = (if ctok (tk t r.2.2) = 59 then _ else _)
          by_cases z : (tk t r.2.2).1 = 3 ∧ (tk t r.2.2).2.2.1 = 59
          · rw [if_pos z, if_pos (h59.mpr z)]
            rfl
          · rw [if_neg z, if_neg (fun y => z (h59.mp y))]
            rfl
      · rw [if_neg q, if_neg (fun y => q ((hk p).mp y))]
        rfl
  refine r_vret dX4_readClause_16 rfl ?_
  exact ⟨_, rfl, rfl, by rw [ef]; exact k3⟩
