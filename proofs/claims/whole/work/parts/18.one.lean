
theorem ps_close' (σ0 : MSt) (T : Tk) (w : Int64) (o : Nat) : mp (psS σ0 T w (o + 1)) 33 ((psS σ0 T w (o + 1)).1 33 - 1) = psS σ0 T w o := by
  refine st_ext (fun j => ?_) rfl rfl
  have e : (psS σ0 T w (o + 1)).1 33 - 1 = nI o := nI_pred o
  rw [e]
  simp only [upd, psS]
  by_cases j1 : j = 29 <;> by_cases j2 : j = 30 <;> by_cases j3 : j = 32 <;> by_cases j4 : j = 33 <;> simp_all
theorem ps_name {t : TB} {σ0 : MSt} {p o : Nat} {w : Int64} (hw : (tk t p).1 = 1 ∨ (tk t p).1 = 2 ∨ (tk t p).1 = 3 → w = (tk t p).2.2.1) (hk : (tk t p).1 = 1) : f_X10_name (psS σ0 (tk t p) w o) = match nameIx (tk t p).2.2.1 with
    | some i => (env σ0 i, psS σ0 (tk t p) w o)
    | none => (0, f_X10_fail (psS σ0 (tk t p) w o)) := by
  have e : ∀ c, f_X10_isWord (psS σ0 (tk t p) w o) c = if (tk t p).2.2.1 = c then 1 else 0 := fun c => by rw [ps_isW hw c]; simp [hk]
  unfold f_X10_name nameIx
  simp only [e]
  generalize (tk t p).2.2.1 = W
  by_cases h0 : W = 40600
  · subst h0; rfl
  by_cases h1 : W = 11047
  · subst h1; rfl
  by_cases h2 : W = 5146
  · subst h2; rfl
  by_cases h3 : W = 495765
  · subst h3; rfl
  by_cases h4 : W = 256721
  · subst h4; rfl
  by_cases h5 : W = 385240
  · subst h5; rfl
  simp [h0, h1, h2, h3, h4, h5]
abbrev MCo (g : GC) (E : ME) (d : Nat) (t : TB) (σ0 : MSt) (o : Nat) (f : Nat → Rs) (y : MethodName) (cc : ByteArray) (mL : Nat) : Prop := ∀ p σ, p ≤ t.2 → OkS t σ0 p o σ → MC g E d y cc mL (some .int) [] (Kp t σ0 o (f p)) σ

set_option maxRecDepth 100000 in
set_option maxHeartbeats 2000000 in
theorem mk_one {g : GC} {E : ME} {t : TB} {x : Nat} {σ0 : MSt} {o d : Nat} {rO rE : Nat → Rs} (hE : MEok E) (hT : TX σ0 t x) (ho : o ≤ 5) (hd : 3 ≤ d) (hO : o < 5 → MCo g E (d - 1) t σ0 (o + 1) rO yX10_one cX10_one 2) (hEi : o < 5 → MCo g E (d - 1) t σ0 (o + 1) rE yX10_either cX10_either 3) : MCo g E d t σ0 o (oneG t (decide (o < 5)) rO rE) yX10_one cX10_one 2 := by
  intro p σ hp hs
  obtain ⟨w, hw, rfl⟩ := hs
  refine AM.of2 (own := RX10) (nm := "one") (L0 := [(0, .ref E.2.2)]) (by decide) rfl rfl (Nat.le_of_ble_eq_true rfl) rfl ?_
  refine r_iconst (v := 0) dX10_one_0 (by decide) ?_
  refine r_istore_n dX10_one_1 (by decide) ?_
  refine r_aload_n dX10_one_2 rfl ?_
  refine r_bipush (v := 45) dX10_one_3 (by decide) ?_
  refine m_callW dX10_one_5 mf_X10_isSign ml_RX10_331 (ok_X10_isSign (d := d - 1) hE (by omega) _ _) rfl rfl rfl (Nat.le_of_ble_eq_true rfl) (by omega) ?_
  refine r_if_eq (tgt := 37) dX10_one_8 (by decide) (fun c => ?_) (fun c => ?_)
  · rw [ps_isS hw] at c
    have cA : ¬ ((tk t p).1 = 3 ∧ (tk t p).2.2.1 = 45) := ite_eq c
    refine r_aload_n dX10_one_37 rfl ?_
    refine r_bipush (v := 40) dX10_one_38 (by decide) ?_
    refine m_callW dX10_one_40 mf_X10_isSign ml_RX10_331 (ok_X10_isSign (d := d - 1) hE (by omega) _ _) rfl rfl rfl (Nat.le_of_ble_eq_true rfl) (by omega) ?_
    refine r_if_eq (tgt := 95) dX10_one_43 (by decide) (fun c1 => ?_) (fun c1 => ?_)
    · rw [ps_isS hw] at c1
      have cB : ¬ ((tk t p).1 = 3 ∧ (tk t p).2.2.1 = 40) := ite_eq c1
      refine r_aload_n dX10_one_95 rfl ?_
      refine m_get dX10_one_96 fl_RX10_281 rfl ?_
      refine r_if_ne (tgt := 123) dX10_one_99 (by decide) (fun c2 => ?_) (fun c2 => ?_)
      · exact absurd rfl c2
      · refine r_aload_n dX10_one_102 rfl ?_
        refine m_get dX10_one_103 fl_RX10_258 rfl ?_
        refine r_iconst (v := 2) dX10_one_106 (by decide) ?_
        refine r_icmp_ne (tgt := 123) dX10_one_107 (by decide) (fun c3 => ?_) (fun c3 => ?_)
        · have c3 : ¬ (tk t p).1 = 2 := c3
          refine r_aload_n dX10_one_123 rfl ?_
          refine m_get dX10_one_124 fl_RX10_281 rfl ?_
          refine r_if_ne (tgt := 157) dX10_one_127 (by decide) (fun c4 => ?_) (fun c4 => ?_)
          · exact absurd rfl c4
          · refine r_aload_n dX10_one_130 rfl ?_
            refine m_get dX10_one_131 fl_RX10_258 rfl ?_
            refine r_iconst (v := 1) dX10_one_134 (by decide) ?_
            refine r_icmp_ne (tgt := 157) dX10_one_135 (by decide) (fun c5 => ?_) (fun c5 => ?_)
            · have c5 : ¬ (tk t p).1 = 1 := c5
              refine r_aload_n dX10_one_157 rfl ?_
              refine m_callV0 dX10_one_158 mf_X10_fail ml_RX10_291 (ok_X10_fail (d := d - 1) hE (by omega) _ ) rfl rfl rfl (Nat.le_of_ble_eq_true rfl) (by omega) ?_
              refine r_iload_n dX10_one_161 rfl ?_
              refine r_iret dX10_one_162 rfl rfl ?_
              exact ⟨_, rfl, Kp.erI (by unfold oneG; rw [if_neg cA, if_neg cB, if_neg c3, if_neg c5]) (ps_fail _)⟩
            · have c5 : (tk t p).1 = 1 := c5
              have hnm := ps_name (σ0 := σ0) (o := o) hw c5
              refine r_aload_n dX10_one_138 rfl ?_
              refine m_callW dX10_one_139 mf_X10_name ml_RX10_344 (ok_X10_name (d := d - 1) hE (by omega) _ ) rfl rfl rfl (Nat.le_of_ble_eq_true rfl) (by omega) ?_
              cases e3 : nameIx (tk t p).2.2.1 with
              | none =>
                rw [e3] at hnm
                rw [hnm]
                refine r_istore_n dX10_one_142 (by decide) ?_
                refine r_aload_n dX10_one_143 rfl ?_
                refine m_get dX10_one_144 fl_RX10_281 rfl ?_
                refine r_if_ne (tgt := 161) dX10_one_147 (by decide) (fun c6 => ?_) (fun c6 => ?_)
                · refine r_iload_n dX10_one_161 rfl ?_
                  refine r_iret dX10_one_162 rfl rfl ?_
                  exact ⟨_, rfl, Kp.erI (by unfold oneG; rw [if_neg cA, if_neg cB, if_neg c3, if_pos c5, e3]) (ps_fail _)⟩
                · exact absurd c6 (by rw [show (0, f_X10_fail (psS σ0 (tk t p) w o)).2.1 34 = 1 from (ps_fail (σ0 := σ0) (o := o) (w := w) (tk t p)).2.1]; decide)
              | some i =>
                rw [e3] at hnm
                rw [hnm]
                refine r_istore_n dX10_one_142 (by decide) ?_
                refine r_aload_n dX10_one_143 rfl ?_
                refine m_get dX10_one_144 fl_RX10_281 rfl ?_
                refine r_if_ne (tgt := 161) dX10_one_147 (by decide) (fun c6 => ?_) (fun c6 => ?_)
                · exact absurd rfl c6
                · refine r_aload_n dX10_one_150 rfl ?_
                  refine m_callV0 dX10_one_151 mf_X10_next ml_RX10_294 (ok_X10_next (d := d - 1) hE (by omega) _  (ps_PV hT hp)) rfl rfl rfl (Nat.le_of_ble_eq_true rfl) (by omega) ?_
                  refine r_goto (tgt := 161) dX10_one_154 (by decide) ?_
                  refine r_iload_n dX10_one_161 rfl ?_
                  refine r_iret dX10_one_162 rfl rfl ?_
                  exact ⟨_, rfl, Kp.okI (a := ([-1 - nI i], (fun v => v i), (tk t p).2.2.2)) (by unfold oneG; rw [if_neg cA, if_neg cB, if_neg c3, if_pos c5, e3]) (tk_le t p hp).2.1 rfl (ps_next (p := p) hT (tk_le t p hp).2.1)⟩
        · have c3 : (tk t p).1 = 2 := c3
          refine r_aload_n dX10_one_110 rfl ?_
          refine m_get dX10_one_111 fl_RX10_265 rfl ?_
          refine r_l2i dX10_one_114 ?_
          refine r_istore_n dX10_one_115 (by decide) ?_
          refine r_aload_n dX10_one_116 rfl ?_
          refine m_callV0 dX10_one_117 mf_X10_next ml_RX10_294 (ok_X10_next (d := d - 1) hE (by omega) _  (ps_PV hT hp)) rfl rfl rfl (Nat.le_of_ble_eq_true rfl) (by omega) ?_
          refine r_goto (tgt := 161) dX10_one_120 (by decide) ?_
          refine r_iload_n dX10_one_161 rfl ?_
          refine r_iret dX10_one_162 rfl rfl ?_
          exact ⟨_, rfl, Kp.okI (a := ([(tk t p).2.2.1.toInt32], (fun _ => (tk t p).2.2.1.toInt32), (tk t p).2.2.2)) (by unfold oneG; rw [if_neg cA, if_neg cB, if_pos c3]) (tk_le t p hp).2.1 (by rw [hw (Or.inr (Or.inl c3))]; rfl) (ps_next (p := p) hT (tk_le t p hp).2.1)⟩
    · rw [ps_isS hw] at c1
      have cB : (tk t p).1 = 3 ∧ (tk t p).2.2.1 = 40 := ite_ne c1
      refine r_aload_n dX10_one_46 rfl ?_
      rcases ps_opens (w := w) hT ho hp with ⟨h5, e⟩ | ⟨h5, s1, e, hs1⟩
      · refine m_callW dX10_one_47 mf_X10_opens ml_RX10_334 (ok_X10_opens (d := d - 1) hE (by omega) _  (ps_PV hT hp)) rfl rfl rfl (Nat.le_of_ble_eq_true rfl) (by omega) ?_
        rw [e]
        refine r_if_eq (tgt := 161) dX10_one_50 (by decide) (fun c2 => ?_) (fun c2 => ?_)
        · refine r_iload_n dX10_one_161 rfl ?_
          refine r_iret dX10_one_162 rfl rfl ?_
          exact ⟨_, rfl, Kp.erI (by unfold oneG; rw [if_neg cA, if_pos cB, if_neg (by rw [h5]; decide)]) (ps_fail _)⟩
        · exact absurd rfl c2
      · refine m_callW dX10_one_47 mf_X10_opens ml_RX10_334 (ok_X10_opens (d := d - 1) hE (by omega) _  (ps_PV hT hp)) rfl rfl rfl (Nat.le_of_ble_eq_true rfl) (by omega) ?_
        rw [e]
        refine r_if_eq (tgt := 161) dX10_one_50 (by decide) (fun c2 => ?_) (fun c2 => ?_)
        · exact absurd c2 (by decide : ¬ (1 : Int32) = 0)
        · refine r_aload_n dX10_one_53 rfl ?_
          refine m_call (As := []) dX10_one_54 mf_X10_either ml_RX10_341 (hEi h5 _ _ (tk_le t p hp).2.1 hs1) rfl rfl rfl (Nat.le_of_ble_eq_true rfl) (by omega) (fun v1 s1 k1 => ?_)
          cases e2 : rE (tk t p).2.2.2 with
          | error y =>
            rw [e2] at k1
            obtain ⟨⟨z, rfl⟩, hEr⟩ := k1
            refine r_istore_n dX10_one_57 (by decide) ?_
            refine r_aload_n dX10_one_58 rfl ?_
            refine r_bipush (v := 41) dX10_one_59 (by decide) ?_
            refine m_callW dX10_one_61 mf_X10_isSign ml_RX10_331 (ok_X10_isSign (d := d - 1) hE (by omega) _ _) rfl rfl rfl (Nat.le_of_ble_eq_true rfl) (by omega) ?_
            rw [er_isS hEr]
            refine r_if_ne (tgt := 71) dX10_one_64 (by decide) (fun c3 => ?_) (fun c3 => ?_)
            · exact absurd rfl c3
            · refine r_aload_n dX10_one_67 rfl ?_
              refine m_callV0 dX10_one_68 mf_X10_fail ml_RX10_291 (ok_X10_fail (d := d - 1) hE (by omega) _ ) rfl rfl rfl (Nat.le_of_ble_eq_true rfl) (by omega) ?_
              rw [er_fail hEr]
              refine r_aload_n dX10_one_71 rfl ?_
              refine r_dup dX10_one_72 rfl ?_
              refine m_get dX10_one_73 fl_RX10_288 rfl ?_
              refine r_iconst (v := 1) dX10_one_76 (by decide) ?_
              refine r_isub dX10_one_77 ?_
              refine m_put hE dX10_one_78 fp_RX10_288 rfl rfl rfl (by decide) ?_
              refine r_aload_n dX10_one_81 rfl ?_
              refine m_get dX10_one_82 fl_RX10_281 rfl ?_
              refine r_if_ne (tgt := 161) dX10_one_85 (by decide) (fun c4 => ?_) (fun c4 => ?_)
              · refine r_iload_n dX10_one_161 rfl ?_
                refine r_iret dX10_one_162 rfl rfl ?_
                exact ⟨_, rfl, Kp.erI (by unfold oneG; rw [if_neg cA, if_pos cB, if_pos (by simpa using h5), e2]) (er_mp hEr _)⟩
              · exact absurd c4 (by rw [show (mp s1 33 (s1.1 33 - 1)).1 34 = 1 from (er_mp hEr _).2.1]; decide)
          | ok r =>
            rw [e2] at k1
            obtain ⟨h1, rfl, w2, hw2, rfl⟩ := k1
            refine r_istore_n dX10_one_57 (by decide) ?_
            refine r_aload_n dX10_one_58 rfl ?_
            refine r_bipush (v := 41) dX10_one_59 (by decide) ?_
            refine m_callW dX10_one_61 mf_X10_isSign ml_RX10_331 (ok_X10_isSign (d := d - 1) hE (by omega) _ _) rfl rfl rfl (Nat.le_of_ble_eq_true rfl) (by omega) ?_
            refine r_if_ne (tgt := 71) dX10_one_64 (by decide) (fun c3 => ?_) (fun c3 => ?_)
            · rw [ps_isS hw2] at c3
              have cC : (tk t r.2.2).1 = 3 ∧ (tk t r.2.2).2.2.1 = 41 := ite_ne c3
              refine r_aload_n dX10_one_71 rfl ?_
              refine r_dup dX10_one_72 rfl ?_
              refine m_get dX10_one_73 fl_RX10_288 rfl ?_
              refine r_iconst (v := 1) dX10_one_76 (by decide) ?_
              refine r_isub dX10_one_77 ?_
              refine m_put hE dX10_one_78 fp_RX10_288 rfl rfl rfl (by decide) ?_
              rw [ps_close']
              refine r_aload_n dX10_one_81 rfl ?_
              refine m_get dX10_one_82 fl_RX10_281 rfl ?_
              refine r_if_ne (tgt := 161) dX10_one_85 (by decide) (fun c4 => ?_) (fun c4 => ?_)
              · exact absurd rfl c4
              · refine r_aload_n dX10_one_88 rfl ?_
                refine m_callV0 dX10_one_89 mf_X10_next ml_RX10_294 (ok_X10_next (d := d - 1) hE (by omega) _  (ps_PV hT h1)) rfl rfl rfl (Nat.le_of_ble_eq_true rfl) (by omega) ?_
                refine r_goto (tgt := 161) dX10_one_92 (by decide) ?_
                refine r_iload_n dX10_one_161 rfl ?_
                refine r_iret dX10_one_162 rfl rfl ?_
                exact ⟨_, rfl, Kp.okI (a := (r.1, r.2.1, (tk t r.2.2).2.2.2)) (by unfold oneG; rw [if_neg cA, if_pos cB, if_pos (by simpa using h5), e2]; exact if_pos cC) (tk_le t r.2.2 h1).2.1 rfl (ps_next (p := r.2.2) hT (tk_le t r.2.2 h1).2.1)⟩
            · rw [ps_isS hw2] at c3
              have cC : ¬ ((tk t r.2.2).1 = 3 ∧ (tk t r.2.2).2.2.1 = 41) := ite_eq c3
              have hF := ps_fail (σ0 := σ0) (o := o + 1) (w := w2) (tk t r.2.2)
              refine r_aload_n dX10_one_67 rfl ?_
              refine m_callV0 dX10_one_68 mf_X10_fail ml_RX10_291 (ok_X10_fail (d := d - 1) hE (by omega) _ ) rfl rfl rfl (Nat.le_of_ble_eq_true rfl) (by omega) ?_
              generalize f_X10_fail (psS σ0 (tk t r.2.2) w2 (o + 1)) = s2 at hF ⊢
              refine r_aload_n dX10_one_71 rfl ?_
              refine r_dup dX10_one_72 rfl ?_
              refine m_get dX10_one_73 fl_RX10_288 rfl ?_
              refine r_iconst (v := 1) dX10_one_76 (by decide) ?_
              refine r_isub dX10_one_77 ?_
              refine m_put hE dX10_one_78 fp_RX10_288 rfl rfl rfl (by decide) ?_
              refine r_aload_n dX10_one_81 rfl ?_
              refine m_get dX10_one_82 fl_RX10_281 rfl ?_
              refine r_if_ne (tgt := 161) dX10_one_85 (by decide) (fun c4 => ?_) (fun c4 => ?_)
              · refine r_iload_n dX10_one_161 rfl ?_
                refine r_iret dX10_one_162 rfl rfl ?_
                exact ⟨_, rfl, Kp.erI (y := (tk t r.2.2).2.1) (by unfold oneG; rw [if_neg cA, if_pos cB, if_pos (by simpa using h5), e2]; exact if_neg cC) (er_mp hF _)⟩
              · exact absurd c4 (by rw [show (mp s2 33 (s2.1 33 - 1)).1 34 = 1 from (er_mp hF _).2.1]; decide)
  · rw [ps_isS hw] at c
    have cA : (tk t p).1 = 3 ∧ (tk t p).2.2.1 = 45 := ite_ne c
    refine r_aload_n dX10_one_11 rfl ?_
    rcases ps_opens (w := w) hT ho hp with ⟨h5, e⟩ | ⟨h5, s1, e, hs1⟩
    · refine m_callW dX10_one_12 mf_X10_opens ml_RX10_334 (ok_X10_opens (d := d - 1) hE (by omega) _  (ps_PV hT hp)) rfl rfl rfl (Nat.le_of_ble_eq_true rfl) (by omega) ?_
      rw [e]
      refine r_if_eq (tgt := 161) dX10_one_15 (by decide) (fun c2 => ?_) (fun c2 => ?_)
      · refine r_iload_n dX10_one_161 rfl ?_
        refine r_iret dX10_one_162 rfl rfl ?_
        exact ⟨_, rfl, Kp.erI (by unfold oneG; rw [if_pos cA, if_neg (by rw [h5]; decide)]) (ps_fail _)⟩
      · exact absurd rfl c2
    · refine m_callW dX10_one_12 mf_X10_opens ml_RX10_334 (ok_X10_opens (d := d - 1) hE (by omega) _  (ps_PV hT hp)) rfl rfl rfl (Nat.le_of_ble_eq_true rfl) (by omega) ?_
      rw [e]
      refine r_if_eq (tgt := 161) dX10_one_15 (by decide) (fun c2 => ?_) (fun c2 => ?_)
      · exact absurd c2 (by decide : ¬ (1 : Int32) = 0)
      · refine r_aload_n dX10_one_18 rfl ?_
        refine m_call (As := []) dX10_one_19 mf_X10_one ml_RX10_337 (hO h5 _ _ (tk_le t p hp).2.1 hs1) rfl rfl rfl (Nat.le_of_ble_eq_true rfl) (by omega) (fun v1 s1 k1 => ?_)
        cases e2 : rO (tk t p).2.2.2 with
        | error y =>
          rw [e2] at k1
          obtain ⟨⟨z, rfl⟩, hEr⟩ := k1
          refine r_ineg dX10_one_22 ?_
          refine r_istore_n dX10_one_23 (by decide) ?_
          refine r_aload_n dX10_one_24 rfl ?_
          refine r_dup dX10_one_25 rfl ?_
          refine m_get dX10_one_26 fl_RX10_288 rfl ?_
          refine r_iconst (v := 1) dX10_one_29 (by decide) ?_
          refine r_isub dX10_one_30 ?_
          refine m_put hE dX10_one_31 fp_RX10_288 rfl rfl rfl (by decide) ?_
          refine r_goto (tgt := 161) dX10_one_34 (by decide) ?_
          refine r_iload_n dX10_one_161 rfl ?_
          refine r_iret dX10_one_162 rfl rfl ?_
          exact ⟨_, rfl, Kp.erI (by unfold oneG; rw [if_pos cA, if_pos (by simpa using h5), e2]) (er_mp hEr _)⟩
        | ok r =>
          rw [e2] at k1
          obtain ⟨h1, rfl, hs2⟩ := k1
          refine r_ineg dX10_one_22 ?_
          refine r_istore_n dX10_one_23 (by decide) ?_
          refine r_aload_n dX10_one_24 rfl ?_
          refine r_dup dX10_one_25 rfl ?_
          refine m_get dX10_one_26 fl_RX10_288 rfl ?_
          refine r_iconst (v := 1) dX10_one_29 (by decide) ?_
          refine r_isub dX10_one_30 ?_
          refine m_put hE dX10_one_31 fp_RX10_288 rfl rfl rfl (by decide) ?_
          refine r_goto (tgt := 161) dX10_one_34 (by decide) ?_
          refine r_iload_n dX10_one_161 rfl ?_
          refine r_iret dX10_one_162 rfl rfl ?_
          exact ⟨_, rfl, Kp.okI (a := (r.1 ++ [-100], (fun v => - r.2.1 v), r.2.2)) (by unfold oneG; rw [if_pos cA, if_pos (by simpa using h5), e2]) h1 rfl (ps_close hs2)⟩
