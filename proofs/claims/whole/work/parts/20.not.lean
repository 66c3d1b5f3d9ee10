set_option maxRecDepth 100000 in
set_option maxHeartbeats 2000000 in
theorem mk_not {g : GC} {E : ME} {t : TB} {x : Nat} {σ0 : MSt} {o d : Nat} {rN f : Nat → Rs} (hE : MEok E) (hT : TX σ0 t x) (ho : o ≤ 5) (hd : 6 ≤ d) (hN : o < 5 → MCo g E (d - 1) t σ0 (o + 1) rN yX10_not cX10_not 4) (hA : MCo g E (d - 1) t σ0 o f yX10_added cX10_added 4) : MCo g E d t σ0 o (notG t (decide (o < 5)) rN f) yX10_not cX10_not 4 := by
  intro p σ hp hs
  have hs0 := hs
  obtain ⟨w, hw, rfl⟩ := hs
  have hq := (tk_le t p hp).2.1
  refine AM.of2 (own := RX10) (nm := "not") (L0 := [(0, .ref E.2.2)]) (by decide) rfl rfl (Nat.le_of_ble_eq_true rfl) rfl ?_
  refine r_aload_n dX10_not_0 rfl ?_
  refine r_ldc2 dX10_not_1 kc_RX10_352 ?_
  refine m_callW dX10_not_4 mf_X10_isWord ml_RX10_299 (ok_X10_isWord (d := d - 1) hE (by omega) _ _) rfl rfl rfl (Nat.le_of_ble_eq_true rfl) (by omega) ?_
  refine r_if_eq (tgt := 44) dX10_not_7 (by decide) (fun c => ?_) (fun c => ?_)
  · rw [ps_isW hw] at c
    have cA : ¬ ((tk t p).1 = 1 ∧ (tk t p).2.2.1 = 10631) := ite_eq c
    refine r_aload_n dX10_not_44 rfl ?_
    refine m_call (As := []) dX10_not_45 mf_X10_added ml_RX10_357 (hA _ _ hp hs0) rfl rfl rfl (Nat.le_of_ble_eq_true rfl) (by omega) (fun v1 s1 k1 => ?_)
    cases e2 : f p with
    | error y =>
      rw [e2] at k1
      obtain ⟨⟨z, rfl⟩, hEr⟩ := k1
      refine r_istore_n dX10_not_48 (by decide) ?_
      refine r_aload_n dX10_not_49 rfl ?_
      refine r_bipush (v := 60) dX10_not_50 (by decide) ?_
      refine m_callW dX10_not_52 mf_X10_isSign ml_RX10_331 (ok_X10_isSign (d := d - 1) hE (by omega) _ _) rfl rfl rfl (Nat.le_of_ble_eq_true rfl) (by omega) ?_
      rw [er_isS hEr]
      refine r_if_ne (tgt := 69) dX10_not_55 (by decide) (fun q1 => ?_) (fun q1 => ?_)
      · exact absurd rfl q1
      · refine r_aload_n dX10_not_58 rfl ?_
        refine r_bipush (v := 61) dX10_not_59 (by decide) ?_
        refine m_callW dX10_not_61 mf_X10_isSign ml_RX10_331 (ok_X10_isSign (d := d - 1) hE (by omega) _ _) rfl rfl rfl (Nat.le_of_ble_eq_true rfl) (by omega) ?_
        rw [er_isS hEr]
        refine r_if_ne (tgt := 69) dX10_not_64 (by decide) (fun q2 => ?_) (fun q2 => ?_)
        · exact absurd rfl q2
        · refine r_iload_n dX10_not_67 rfl ?_
          refine r_iret dX10_not_68 rfl rfl ?_
          exact ⟨_, rfl, Kp.erI (by unfold notG; rw [if_neg cA, e2]) hEr⟩
    | ok r =>
      rw [e2] at k1
      obtain ⟨h1, rfl, w2, hw2, rfl⟩ := k1
      have hq2 := (tk_le t r.2.2 h1).2.1
      refine r_istore_n dX10_not_48 (by decide) ?_
      refine r_aload_n dX10_not_49 rfl ?_
      refine r_bipush (v := 60) dX10_not_50 (by decide) ?_
      refine m_callW dX10_not_52 mf_X10_isSign ml_RX10_331 (ok_X10_isSign (d := d - 1) hE (by omega) _ _) rfl rfl rfl (Nat.le_of_ble_eq_true rfl) (by omega) ?_
      refine r_if_ne (tgt := 69) dX10_not_55 (by decide) (fun c1 => ?_) (fun c1 => ?_)
      · rw [ps_isS hw2] at c1
        have cC : (tk t r.2.2).1 = 3 ∧ (tk t r.2.2).2.2.1 = 60 := ite_ne c1
        have hwv : w2 = 60 := (hw2 (Or.inr (Or.inr cC.1))).trans cC.2
        have hs1 := ps_next (w := w2) (o := o) (p := r.2.2) hT hq2
        refine r_aload_n dX10_not_69 rfl ?_
        refine m_get dX10_not_70 fl_RX10_265 rfl ?_
        refine r_ldc2 dX10_not_73 kc_RX10_360 ?_
        refine r_lcmp dX10_not_76 ?_
        refine r_if_ne (tgt := 84) dX10_not_77 (by decide) (fun b0 => ?_) (fun b0 => ?_)
        · exact absurd ((lg_eq _ _).mpr hwv) b0
        · refine r_iconst (v := 1) dX10_not_80 (by decide) ?_
          refine r_goto (tgt := 85) dX10_not_81 (by decide) ?_
          refine r_istore_n dX10_not_85 (by decide) ?_
          refine r_aload_n dX10_not_86 rfl ?_
          refine m_callV0 dX10_not_87 mf_X10_next ml_RX10_294 (ok_X10_next (d := d - 1) hE (by omega) _  (ps_PV hT h1)) rfl rfl rfl (Nat.le_of_ble_eq_true rfl) (by omega) ?_
          generalize f_X10_next (psS σ0 (tk t r.2.2) w2 o) = s1 at hs1 ⊢
          refine r_aload_n dX10_not_90 rfl ?_
          refine m_call (As := []) dX10_not_91 mf_X10_added ml_RX10_357 (hA _ _ hq2 hs1) rfl rfl rfl (Nat.le_of_ble_eq_true rfl) (by omega) (fun v2 s2 k2 => ?_)
          cases e3 : f (tk t r.2.2).2.2.2 with
          | error y =>
            rw [e3] at k2
            obtain ⟨⟨z, rfl⟩, hEr⟩ := k2
            refine r_istore_n dX10_not_94 (by decide) ?_
            refine r_iload_n dX10_not_95 rfl ?_
            refine r_if_eq (tgt := 107) dX10_not_96 (by decide) (fun b1 => ?_) (fun b1 => ?_)
            · exact absurd b1 (by decide)
            · refine r_iload_n dX10_not_99 rfl ?_
              refine r_iload_n dX10_not_100 rfl ?_
              refine r_icmp_ge (tgt := 116) dX10_not_101 (by decide) (fun b2 => ?_) (fun b2 => ?_)
              · refine r_iconst (v := 0) dX10_not_116 (by decide) ?_
                refine r_iret dX10_not_117 rfl rfl ?_
                exact ⟨_, rfl, Kp.erI (by unfold notG; rw [if_neg cA, e2]; simp only []; rw [if_pos ⟨cC.1, Or.inl cC.2⟩, e3]) hEr⟩
              · refine r_goto (tgt := 112) dX10_not_104 (by decide) ?_
                refine r_iconst (v := 1) dX10_not_112 (by decide) ?_
                refine r_goto (tgt := 117) dX10_not_113 (by decide) ?_
                refine r_iret dX10_not_117 rfl rfl ?_
                exact ⟨_, rfl, Kp.erI (by unfold notG; rw [if_neg cA, e2]; simp only []; rw [if_pos ⟨cC.1, Or.inl cC.2⟩, e3]) hEr⟩
          | ok r2 =>
            rw [e3] at k2
            obtain ⟨h2, rfl, hs3⟩ := k2
            refine r_istore_n dX10_not_94 (by decide) ?_
            refine r_iload_n dX10_not_95 rfl ?_
            refine r_if_eq (tgt := 107) dX10_not_96 (by decide) (fun b1 => ?_) (fun b1 => ?_)
            · exact absurd b1 (by decide)
            · refine r_iload_n dX10_not_99 rfl ?_
              refine r_iload_n dX10_not_100 rfl ?_
              refine r_icmp_ge (tgt := 116) dX10_not_101 (by decide) (fun b2 => ?_) (fun b2 => ?_)
              · refine r_iconst (v := 0) dX10_not_116 (by decide) ?_
                refine r_iret dX10_not_117 rfl rfl ?_
                exact ⟨_, rfl, Kp.okI (a := (r.1 ++ r2.1 ++ [if (tk t r.2.2).2.2.1 = 60 then -60 else -61], (fun v => jn (if (tk t r.2.2).2.2.1 = 60 then -60 else -61) (r.2.1 v) (r2.2.1 v)), r2.2.2)) (by unfold notG; rw [if_neg cA, e2]; simp only []; rw [if_pos ⟨cC.1, Or.inl cC.2⟩, e3]) h2 (by show (0 : Int32) = jn (if (tk t r.2.2).2.2.1 = 60 then -60 else -61) _ _; rw [if_pos cC.2]; exact (if_neg (Int32.not_lt.mpr b2)).symm) hs3⟩
              · refine r_goto (tgt := 112) dX10_not_104 (by decide) ?_
                refine r_iconst (v := 1) dX10_not_112 (by decide) ?_
                refine r_goto (tgt := 117) dX10_not_113 (by decide) ?_
                refine r_iret dX10_not_117 rfl rfl ?_
                exact ⟨_, rfl, Kp.okI (a := (r.1 ++ r2.1 ++ [if (tk t r.2.2).2.2.1 = 60 then -60 else -61], (fun v => jn (if (tk t r.2.2).2.2.1 = 60 then -60 else -61) (r.2.1 v) (r2.2.1 v)), r2.2.2)) (by unfold notG; rw [if_neg cA, e2]; simp only []; rw [if_pos ⟨cC.1, Or.inl cC.2⟩, e3]) h2 (by show (1 : Int32) = jn (if (tk t r.2.2).2.2.1 = 60 then -60 else -61) _ _; rw [if_pos cC.2]; exact (if_pos (Int32.not_le.mp b2)).symm) hs3⟩
      · rw [ps_isS hw2] at c1
        have cB : ¬ ((tk t r.2.2).1 = 3 ∧ (tk t r.2.2).2.2.1 = 60) := ite_eq c1
        refine r_aload_n dX10_not_58 rfl ?_
        refine r_bipush (v := 61) dX10_not_59 (by decide) ?_
        refine m_callW dX10_not_61 mf_X10_isSign ml_RX10_331 (ok_X10_isSign (d := d - 1) hE (by omega) _ _) rfl rfl rfl (Nat.le_of_ble_eq_true rfl) (by omega) ?_
        refine r_if_ne (tgt := 69) dX10_not_64 (by decide) (fun c2 => ?_) (fun c2 => ?_)
        · rw [ps_isS hw2] at c2
          have cC : (tk t r.2.2).1 = 3 ∧ (tk t r.2.2).2.2.1 = 61 := ite_ne c2
          have hwv : w2 = 61 := (hw2 (Or.inr (Or.inr cC.1))).trans cC.2
          have hs1 := ps_next (w := w2) (o := o) (p := r.2.2) hT hq2
          refine r_aload_n dX10_not_69 rfl ?_
          refine m_get dX10_not_70 fl_RX10_265 rfl ?_
          refine r_ldc2 dX10_not_73 kc_RX10_360 ?_
          refine r_lcmp dX10_not_76 ?_
          refine r_if_ne (tgt := 84) dX10_not_77 (by decide) (fun b0 => ?_) (fun b0 => ?_)
          · refine r_iconst (v := 0) dX10_not_84 (by decide) ?_
            refine r_istore_n dX10_not_85 (by decide) ?_
            refine r_aload_n dX10_not_86 rfl ?_
            refine m_callV0 dX10_not_87 mf_X10_next ml_RX10_294 (ok_X10_next (d := d - 1) hE (by omega) _  (ps_PV hT h1)) rfl rfl rfl (Nat.le_of_ble_eq_true rfl) (by omega) ?_
            generalize f_X10_next (psS σ0 (tk t r.2.2) w2 o) = s1 at hs1 ⊢
            refine r_aload_n dX10_not_90 rfl ?_
            refine m_call (As := []) dX10_not_91 mf_X10_added ml_RX10_357 (hA _ _ hq2 hs1) rfl rfl rfl (Nat.le_of_ble_eq_true rfl) (by omega) (fun v2 s2 k2 => ?_)
            cases e3 : f (tk t r.2.2).2.2.2 with
            | error y =>
              rw [e3] at k2
              obtain ⟨⟨z, rfl⟩, hEr⟩ := k2
              refine r_istore_n dX10_not_94 (by decide) ?_
              refine r_iload_n dX10_not_95 rfl ?_
              refine r_if_eq (tgt := 107) dX10_not_96 (by decide) (fun b1 => ?_) (fun b1 => ?_)
              · refine r_iload_n dX10_not_107 rfl ?_
                refine r_iload_n dX10_not_108 rfl ?_
                refine r_icmp_ne (tgt := 116) dX10_not_109 (by decide) (fun b2 => ?_) (fun b2 => ?_)
                · refine r_iconst (v := 0) dX10_not_116 (by decide) ?_
                  refine r_iret dX10_not_117 rfl rfl ?_
                  exact ⟨_, rfl, Kp.erI (by unfold notG; rw [if_neg cA, e2]; simp only []; rw [if_pos ⟨cC.1, Or.inr cC.2⟩, e3]) hEr⟩
                · refine r_iconst (v := 1) dX10_not_112 (by decide) ?_
                  refine r_goto (tgt := 117) dX10_not_113 (by decide) ?_
                  refine r_iret dX10_not_117 rfl rfl ?_
                  exact ⟨_, rfl, Kp.erI (by unfold notG; rw [if_neg cA, e2]; simp only []; rw [if_pos ⟨cC.1, Or.inr cC.2⟩, e3]) hEr⟩
              · exact absurd rfl b1
            | ok r2 =>
              rw [e3] at k2
              obtain ⟨h2, rfl, hs3⟩ := k2
              refine r_istore_n dX10_not_94 (by decide) ?_
              refine r_iload_n dX10_not_95 rfl ?_
              refine r_if_eq (tgt := 107) dX10_not_96 (by decide) (fun b1 => ?_) (fun b1 => ?_)
              · refine r_iload_n dX10_not_107 rfl ?_
                refine r_iload_n dX10_not_108 rfl ?_
                refine r_icmp_ne (tgt := 116) dX10_not_109 (by decide) (fun b2 => ?_) (fun b2 => ?_)
                · refine r_iconst (v := 0) dX10_not_116 (by decide) ?_
                  refine r_iret dX10_not_117 rfl rfl ?_
                  exact ⟨_, rfl, Kp.okI (a := (r.1 ++ r2.1 ++ [if (tk t r.2.2).2.2.1 = 60 then -60 else -61], (fun v => jn (if (tk t r.2.2).2.2.1 = 60 then -60 else -61) (r.2.1 v) (r2.2.1 v)), r2.2.2)) (by unfold notG; rw [if_neg cA, e2]; simp only []; rw [if_pos ⟨cC.1, Or.inr cC.2⟩, e3]) h2 (by show (0 : Int32) = jn (if (tk t r.2.2).2.2.1 = 60 then -60 else -61) _ _; rw [if_neg (by rw [cC.2]; decide)]; exact (if_neg b2).symm) hs3⟩
                · refine r_iconst (v := 1) dX10_not_112 (by decide) ?_
                  refine r_goto (tgt := 117) dX10_not_113 (by decide) ?_
                  refine r_iret dX10_not_117 rfl rfl ?_
                  exact ⟨_, rfl, Kp.okI (a := (r.1 ++ r2.1 ++ [if (tk t r.2.2).2.2.1 = 60 then -60 else -61], (fun v => jn (if (tk t r.2.2).2.2.1 = 60 then -60 else -61) (r.2.1 v) (r2.2.1 v)), r2.2.2)) (by unfold notG; rw [if_neg cA, e2]; simp only []; rw [if_pos ⟨cC.1, Or.inr cC.2⟩, e3]) h2 (by show (1 : Int32) = jn (if (tk t r.2.2).2.2.1 = 60 then -60 else -61) _ _; rw [if_neg (by rw [cC.2]; decide)]; exact (if_pos b2).symm) hs3⟩
              · exact absurd rfl b1
          · exact absurd ((lg_eq _ _).mp b0) (by show ¬ w2 = 60; rw [hwv]; decide)
        · rw [ps_isS hw2] at c2
          have cC : ¬ ((tk t r.2.2).1 = 3 ∧ (tk t r.2.2).2.2.1 = 61) := ite_eq c2
          refine r_iload_n dX10_not_67 rfl ?_
          refine r_iret dX10_not_68 rfl rfl ?_
          exact ⟨_, rfl, Kp.okI (a := r) (by unfold notG; rw [if_neg cA, e2]; simp only []; rw [if_neg (fun q => q.2.elim (fun y => cB ⟨q.1, y⟩) (fun y => cC ⟨q.1, y⟩))]) h1 rfl ⟨w2, hw2, rfl⟩⟩
  · rw [ps_isW hw] at c
    have cA : (tk t p).1 = 1 ∧ (tk t p).2.2.1 = 10631 := ite_ne c
    refine r_aload_n dX10_not_10 rfl ?_
    rcases ps_opens (w := w) hT ho hp with ⟨h5, e⟩ | ⟨h5, s1, e, hs1⟩
    · refine m_callW dX10_not_11 mf_X10_opens ml_RX10_334 (ok_X10_opens (d := d - 1) hE (by omega) _  (ps_PV hT hp)) rfl rfl rfl (Nat.le_of_ble_eq_true rfl) (by omega) ?_
      rw [e]
      refine r_if_ne (tgt := 19) dX10_not_14 (by decide) (fun c2 => ?_) (fun c2 => ?_)
      · exact absurd rfl c2
      · refine r_iconst (v := 0) dX10_not_17 (by decide) ?_
        refine r_iret dX10_not_18 rfl rfl ?_
        exact ⟨_, rfl, Kp.erI (by unfold notG; rw [if_pos cA, if_neg (by rw [h5]; decide)]) (ps_fail _)⟩
    · refine m_callW dX10_not_11 mf_X10_opens ml_RX10_334 (ok_X10_opens (d := d - 1) hE (by omega) _  (ps_PV hT hp)) rfl rfl rfl (Nat.le_of_ble_eq_true rfl) (by omega) ?_
      rw [e]
      refine r_if_ne (tgt := 19) dX10_not_14 (by decide) (fun c2 => ?_) (fun c2 => ?_)
      · refine r_aload_n dX10_not_19 rfl ?_
        refine m_call (As := []) dX10_not_20 mf_X10_not ml_RX10_354 (hN h5 _ _ hq hs1) rfl rfl rfl (Nat.le_of_ble_eq_true rfl) (by omega) (fun v1 s2 k1 => ?_)
        cases e2 : rN (tk t p).2.2.2 with
        | error y =>
          rw [e2] at k1
          obtain ⟨⟨z, rfl⟩, hEr⟩ := k1
          refine r_istore_n dX10_not_23 (by decide) ?_
          refine r_aload_n dX10_not_24 rfl ?_
          refine r_dup dX10_not_25 rfl ?_
          refine m_get dX10_not_26 fl_RX10_288 rfl ?_
          refine r_iconst (v := 1) dX10_not_29 (by decide) ?_
          refine r_isub dX10_not_30 ?_
          refine m_put hE dX10_not_31 fp_RX10_288 rfl rfl rfl (by decide) ?_
          refine r_iload_n dX10_not_34 rfl ?_
          refine r_if_ne (tgt := 42) dX10_not_35 (by decide) (fun b1 => ?_) (fun b1 => ?_)
          · refine r_iconst (v := 0) dX10_not_42 (by decide) ?_
            refine r_iret dX10_not_43 rfl rfl ?_
            exact ⟨_, rfl, Kp.erI (by unfold notG; rw [if_pos cA, if_pos (by simpa using h5), e2]) (er_mp hEr _)⟩
          · refine r_iconst (v := 1) dX10_not_38 (by decide) ?_
            refine r_goto (tgt := 43) dX10_not_39 (by decide) ?_
            refine r_iret dX10_not_43 rfl rfl ?_
            exact ⟨_, rfl, Kp.erI (by unfold notG; rw [if_pos cA, if_pos (by simpa using h5), e2]) (er_mp hEr _)⟩
        | ok r =>
          rw [e2] at k1
          obtain ⟨h1, rfl, hs2⟩ := k1
          refine r_istore_n dX10_not_23 (by decide) ?_
          refine r_aload_n dX10_not_24 rfl ?_
          refine r_dup dX10_not_25 rfl ?_
          refine m_get dX10_not_26 fl_RX10_288 rfl ?_
          refine r_iconst (v := 1) dX10_not_29 (by decide) ?_
          refine r_isub dX10_not_30 ?_
          refine m_put hE dX10_not_31 fp_RX10_288 rfl rfl rfl (by decide) ?_
          refine r_iload_n dX10_not_34 rfl ?_
          refine r_if_ne (tgt := 42) dX10_not_35 (by decide) (fun b1 => ?_) (fun b1 => ?_)
          · refine r_iconst (v := 0) dX10_not_42 (by decide) ?_
            refine r_iret dX10_not_43 rfl rfl ?_
            exact ⟨_, rfl, Kp.okI (a := (r.1 ++ [-11], (fun v => if r.2.1 v = 0 then 1 else 0), r.2.2)) (by unfold notG; rw [if_pos cA, if_pos (by simpa using h5), e2]) h1 (if_neg b1).symm (ps_close hs2)⟩
          · refine r_iconst (v := 1) dX10_not_38 (by decide) ?_
            refine r_goto (tgt := 43) dX10_not_39 (by decide) ?_
            refine r_iret dX10_not_43 rfl rfl ?_
            exact ⟨_, rfl, Kp.okI (a := (r.1 ++ [-11], (fun v => if r.2.1 v = 0 then 1 else 0), r.2.2)) (by unfold notG; rw [if_pos cA, if_pos (by simpa using h5), e2]) h1 (if_pos b1).symm (ps_close hs2)⟩
      · exact absurd c2 (by decide : ¬ (1 : Int32) = 0)

