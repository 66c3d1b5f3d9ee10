
theorem mk_gram {g : GC} {E : ME} {t : TB} {x : Nat} {σ0 : MSt} (hE : MEok E) (hT : TX σ0 t x) (ht : t.2 ≤ 160) : ∀ k, k ≤ 5 → (∀ d, 3 + 6 * k ≤ d → MCo g E d t σ0 (5 - k) (gram t k).1 yX10_one cX10_one 2) ∧ (∀ d, 8 + 6 * k ≤ d → MCo g E d t σ0 (5 - k) (gram t k).2.1 yX10_either cX10_either 3) ∧ (∀ d, 6 + 6 * k ≤ d → MCo g E d t σ0 (5 - k) (gram t k).2.2 yX10_not cX10_not 4) := by
  intro k
  induction k with
  | zero =>
    intro _
    have m1 : Mono t (oneG t false (fun _ => .error 0) (fun _ => .error 0)) := (gram_mono t ht 0).1
    have m3 : Mono t (notG t false (fun _ => .error 0) (addG t (oneG t false (fun _ => .error 0) (fun _ => .error 0)))) := (gram_mono t ht 0).2.2
    have h1 : ∀ d, 3 ≤ d → MCo g E d t σ0 5 (oneG t false (fun _ => .error 0) (fun _ => .error 0)) yX10_one cX10_one 2 := fun d hd => mk_one (o := 5) hE hT (by omega) hd (fun q => absurd q (by omega)) (fun q => absurd q (by omega))
    have h2 : ∀ d, 4 ≤ d → MCo g E d t σ0 5 (chainG t opMul (oneG t false (fun _ => .error 0) (fun _ => .error 0))) yX10_term cX10_term 2 := fun d hd => mk_term hE hT m1 ht (by omega) (h1 (d - 1) (by omega))
    have m2 := Mono.chain ht m1 opMul_ok
    have h3 : ∀ d, 5 ≤ d → MCo g E d t σ0 5 (addG t (oneG t false (fun _ => .error 0) (fun _ => .error 0))) yX10_added cX10_added 4 := fun d hd => mk_added hE hT m2 ht (by omega) (h2 (d - 1) (by omega))
    have h4 : ∀ d, 6 ≤ d → MCo g E d t σ0 5 (notG t false (fun _ => .error 0) (addG t (oneG t false (fun _ => .error 0) (fun _ => .error 0)))) yX10_not cX10_not 4 := fun d hd => mk_not (o := 5) hE hT (by omega) hd (fun q => absurd q (by omega)) (h3 (d - 1) (by omega))
    have h5 : ∀ d, 7 ≤ d → MCo g E d t σ0 5 _ yX10_both cX10_both 3 := fun d hd => mk_both hE hT m3 ht (by omega) (h4 (d - 1) (by omega))
    have h6 : ∀ d, 8 ≤ d → MCo g E d t σ0 5 _ yX10_either cX10_either 3 := fun d hd => mk_either hE hT (Mono.chain ht m3 opAnd_ok) ht (by omega) (h5 (d - 1) (by omega))
    exact ⟨h1, h6, h4⟩
  | succ k ih =>
    intro hk
    obtain ⟨i1, i2, i3⟩ := ih (by omega)
    have e5 : 5 - (k + 1) + 1 = 5 - k := by omega
    have m1 : Mono t (oneG t true (gram t k).1 (gram t k).2.1) := (gram_mono t ht (k + 1)).1
    have m3 : Mono t (notG t true (gram t k).2.2 (addG t (oneG t true (gram t k).1 (gram t k).2.1))) := (gram_mono t ht (k + 1)).2.2
    have dt : decide (5 - (k + 1) < 5) = true := decide_eq_true (by omega)
    have h1 : ∀ d, 3 + 6 * (k + 1) ≤ d → MCo g E d t σ0 (5 - (k + 1)) (oneG t true (gram t k).1 (gram t k).2.1) yX10_one cX10_one 2 := fun d hd => by
      have := mk_one (g := g) (o := 5 - (k + 1)) (d := d) (rO := (gram t k).1) (rE := (gram t k).2.1) hE hT (by omega) (by omega) (fun _ => by rw [e5]; exact i1 (d - 1) (by omega)) (fun _ => by rw [e5]; exact i2 (d - 1) (by omega))
      rw [dt] at this
      exact this
    have h2 : ∀ d, 4 + 6 * (k + 1) ≤ d → MCo g E d t σ0 (5 - (k + 1)) (chainG t opMul (oneG t true (gram t k).1 (gram t k).2.1)) yX10_term cX10_term 2 := fun d hd => mk_term hE hT m1 ht (by omega) (h1 (d - 1) (by omega))
    have m2 := Mono.chain ht m1 opMul_ok
    have h3 : ∀ d, 5 + 6 * (k + 1) ≤ d → MCo g E d t σ0 (5 - (k + 1)) (addG t (oneG t true (gram t k).1 (gram t k).2.1)) yX10_added cX10_added 4 := fun d hd => mk_added hE hT m2 ht (by omega) (h2 (d - 1) (by omega))
    have h4 : ∀ d, 6 + 6 * (k + 1) ≤ d → MCo g E d t σ0 (5 - (k + 1)) (notG t true (gram t k).2.2 (addG t (oneG t true (gram t k).1 (gram t k).2.1))) yX10_not cX10_not 4 := fun d hd => by
      have := mk_not (g := g) (o := 5 - (k + 1)) (d := d) (rN := (gram t k).2.2) hE hT (by omega) (by omega) (fun _ => by rw [e5]; exact i3 (d - 1) (by omega)) (h3 (d - 1) (by omega))
      rw [dt] at this
      exact this
    have h5 : ∀ d, 7 + 6 * (k + 1) ≤ d → MCo g E d t σ0 (5 - (k + 1)) _ yX10_both cX10_both 3 := fun d hd => mk_both hE hT m3 ht (by omega) (h4 (d - 1) (by omega))
    have h6 : ∀ d, 8 + 6 * (k + 1) ≤ d → MCo g E d t σ0 (5 - (k + 1)) _ yX10_either cX10_either 3 := fun d hd => mk_either hE hT (Mono.chain ht m3 opAnd_ok) ht (by omega) (h5 (d - 1) (by omega))
    exact ⟨h1, h6, h4⟩

set_option maxRecDepth 100000 in
set_option maxHeartbeats 2000000 in
theorem mk_part {g : GC} {E : ME} {t : TB} {x : Nat} {σ0 : MSt} {d : Nat} (hE : MEok E) (hT : TX σ0 t x) (hd : 39 ≤ d) (key : Int64) : ∀ p σ, p ≤ t.2 → OkS t σ0 p 0 σ → MC g E d yX10_part cX10_part 4 (some .int) [.long key] (Kp t σ0 0 (partG t key p)) σ := by
  have hF : MCo g E (d - 1) t σ0 0 (gram t 5).2.1 yX10_either cX10_either 3 := (mk_gram hE hT hT.2.2.2.1 5 (by omega)).2.1 (d - 1) (by omega)
  intro p σ hp hs
  obtain ⟨w, hw, rfl⟩ := hs
  have hq := (tk_le t p hp).2.1
  refine AM.of2 (own := RX10) (nm := "part") (L0 := [(0, .ref E.2.2), (1, .long key)]) (by decide) rfl rfl (Nat.le_of_ble_eq_true rfl) rfl ?_
  refine r_aload_n dX10_part_0 rfl ?_
  refine r_lload_n dX10_part_1 rfl ?_
  refine m_callW dX10_part_2 mf_X10_isWord ml_RX10_299 (ok_X10_isWord (d := d - 1) hE (by omega) _ _) rfl rfl rfl (Nat.le_of_ble_eq_true rfl) (by omega) ?_
  refine r_if_ne (tgt := 12) dX10_part_5 (by decide) (fun c => ?_) (fun c => ?_)
  · rw [ps_isW hw] at c
    have cA : (tk t p).1 = 1 ∧ (tk t p).2.2.1 = key := ite_ne c
    have hs1 := ps_next (w := w) (o := 0) (p := p) hT hq
    refine r_aload_n dX10_part_12 rfl ?_
    refine m_get dX10_part_13 fl_RX10_281 rfl ?_
    refine r_if_ne (tgt := 23) dX10_part_16 (by decide) (fun c1 => ?_) (fun c1 => ?_)
    · exact absurd rfl c1
    · refine r_aload_n dX10_part_19 rfl ?_
      refine m_callV0 dX10_part_20 mf_X10_next ml_RX10_294 (ok_X10_next (d := d - 1) hE (by omega) _  (ps_PV hT hp)) rfl rfl rfl (Nat.le_of_ble_eq_true rfl) (by omega) ?_
      obtain ⟨w1, hw1, e1⟩ := hs1
      rw [e1]
      refine r_aload_n dX10_part_23 rfl ?_
      refine m_get dX10_part_24 fl_RX10_281 rfl ?_
      refine r_if_eq (tgt := 34) dX10_part_27 (by decide) (fun c2 => ?_) (fun c2 => ?_)
      · refine r_aload_n dX10_part_34 rfl ?_
        refine m_call (As := []) dX10_part_35 mf_X10_either ml_RX10_341 (hF _ _ hq ⟨w1, hw1, rfl⟩) rfl rfl rfl (Nat.le_of_ble_eq_true rfl) (by omega) (fun v1 s2 k1 => ?_)
        cases e2 : (gram t 5).2.1 (tk t p).2.2.2 with
        | error y =>
          rw [e2] at k1
          obtain ⟨⟨z, rfl⟩, hEr⟩ := k1
          refine r_istore_n dX10_part_38 (by decide) ?_
          refine r_aload_n dX10_part_39 rfl ?_
          refine r_bipush (v := 59) dX10_part_40 (by decide) ?_
          refine m_callW dX10_part_42 mf_X10_isSign ml_RX10_331 (ok_X10_isSign (d := d - 1) hE (by omega) _ _) rfl rfl rfl (Nat.le_of_ble_eq_true rfl) (by omega) ?_
          rw [er_isS hEr]
          refine r_if_ne (tgt := 52) dX10_part_45 (by decide) (fun q1 => ?_) (fun q1 => ?_)
          · exact absurd rfl q1
          · refine r_aload_n dX10_part_48 rfl ?_
            refine m_callV0 dX10_part_49 mf_X10_fail ml_RX10_291 (ok_X10_fail (d := d - 1) hE (by omega) _ ) rfl rfl rfl (Nat.le_of_ble_eq_true rfl) (by omega) ?_
            rw [er_fail hEr]
            refine r_aload_n dX10_part_52 rfl ?_
            refine m_get dX10_part_53 fl_RX10_281 rfl ?_
            refine r_if_ne (tgt := 63) dX10_part_56 (by decide) (fun q2 => ?_) (fun q2 => ?_)
            · refine r_iload_n dX10_part_63 rfl ?_
              refine r_iret dX10_part_64 rfl rfl ?_
              exact ⟨_, rfl, Kp.erI (by unfold partG; rw [if_pos cA, e2]) hEr⟩
            · exact absurd q2 (by rw [hEr.2.1]; decide)
        | ok r =>
          rw [e2] at k1
          obtain ⟨h1, rfl, w2, hw2, rfl⟩ := k1
          have hq2 := (tk_le t r.2.2 h1).2.1
          refine r_istore_n dX10_part_38 (by decide) ?_
          refine r_aload_n dX10_part_39 rfl ?_
          refine r_bipush (v := 59) dX10_part_40 (by decide) ?_
          refine m_callW dX10_part_42 mf_X10_isSign ml_RX10_331 (ok_X10_isSign (d := d - 1) hE (by omega) _ _) rfl rfl rfl (Nat.le_of_ble_eq_true rfl) (by omega) ?_
          refine r_if_ne (tgt := 52) dX10_part_45 (by decide) (fun c3 => ?_) (fun c3 => ?_)
          · rw [ps_isS hw2] at c3
            have cC : (tk t r.2.2).1 = 3 ∧ (tk t r.2.2).2.2.1 = 59 := ite_ne c3
            refine r_aload_n dX10_part_52 rfl ?_
            refine m_get dX10_part_53 fl_RX10_281 rfl ?_
            refine r_if_ne (tgt := 63) dX10_part_56 (by decide) (fun q2 => ?_) (fun q2 => ?_)
            · exact absurd rfl q2
            · refine r_aload_n dX10_part_59 rfl ?_
              refine m_callV0 dX10_part_60 mf_X10_next ml_RX10_294 (ok_X10_next (d := d - 1) hE (by omega) _  (ps_PV hT h1)) rfl rfl rfl (Nat.le_of_ble_eq_true rfl) (by omega) ?_
              refine r_iload_n dX10_part_63 rfl ?_
              refine r_iret dX10_part_64 rfl rfl ?_
              exact ⟨_, rfl, Kp.okI (a := (r.1, r.2.1, (tk t r.2.2).2.2.2)) (by unfold partG; rw [if_pos cA, e2]; exact if_pos cC) hq2 rfl (ps_next (p := r.2.2) hT hq2)⟩
          · rw [ps_isS hw2] at c3
            have cC : ¬ ((tk t r.2.2).1 = 3 ∧ (tk t r.2.2).2.2.1 = 59) := ite_eq c3
            have hF2 := ps_fail (σ0 := σ0) (o := 0) (w := w2) (tk t r.2.2)
            refine r_aload_n dX10_part_48 rfl ?_
            refine m_callV0 dX10_part_49 mf_X10_fail ml_RX10_291 (ok_X10_fail (d := d - 1) hE (by omega) _ ) rfl rfl rfl (Nat.le_of_ble_eq_true rfl) (by omega) ?_
            generalize f_X10_fail (psS σ0 (tk t r.2.2) w2 0) = s3 at hF2 ⊢
            refine r_aload_n dX10_part_52 rfl ?_
            refine m_get dX10_part_53 fl_RX10_281 rfl ?_
            refine r_if_ne (tgt := 63) dX10_part_56 (by decide) (fun q2 => ?_) (fun q2 => ?_)
            · refine r_iload_n dX10_part_63 rfl ?_
              refine r_iret dX10_part_64 rfl rfl ?_
              exact ⟨_, rfl, Kp.erI (y := (tk t r.2.2).2.1) (by unfold partG; rw [if_pos cA, e2]; exact if_neg cC) hF2⟩
            · exact absurd q2 (by rw [hF2.2.1]; decide)
      · exact absurd rfl c2
  · rw [ps_isW hw] at c
    have cA : ¬ ((tk t p).1 = 1 ∧ (tk t p).2.2.1 = key) := ite_eq c
    have hEr := ps_fail (σ0 := σ0) (o := 0) (w := w) (tk t p)
    refine r_aload_n dX10_part_8 rfl ?_
    refine m_callV0 dX10_part_9 mf_X10_fail ml_RX10_291 (ok_X10_fail (d := d - 1) hE (by omega) _ ) rfl rfl rfl (Nat.le_of_ble_eq_true rfl) (by omega) ?_
    generalize f_X10_fail (psS σ0 (tk t p) w 0) = s1 at hEr ⊢
    refine r_aload_n dX10_part_12 rfl ?_
    refine m_get dX10_part_13 fl_RX10_281 rfl ?_
    refine r_if_ne (tgt := 23) dX10_part_16 (by decide) (fun c1 => ?_) (fun c1 => ?_)
    · refine r_aload_n dX10_part_23 rfl ?_
      refine m_get dX10_part_24 fl_RX10_281 rfl ?_
      refine r_if_eq (tgt := 34) dX10_part_27 (by decide) (fun c2 => ?_) (fun c2 => ?_)
      · exact absurd c2 (by rw [hEr.2.1]; decide)
      · refine r_iconst (v := 0) dX10_part_30 (by decide) ?_
        refine r_goto (tgt := 38) dX10_part_31 (by decide) ?_
        refine r_istore_n dX10_part_38 (by decide) ?_
        refine r_aload_n dX10_part_39 rfl ?_
        refine r_bipush (v := 59) dX10_part_40 (by decide) ?_
        refine m_callW dX10_part_42 mf_X10_isSign ml_RX10_331 (ok_X10_isSign (d := d - 1) hE (by omega) _ _) rfl rfl rfl (Nat.le_of_ble_eq_true rfl) (by omega) ?_
        rw [er_isS hEr]
        refine r_if_ne (tgt := 52) dX10_part_45 (by decide) (fun q1 => ?_) (fun q1 => ?_)
        · exact absurd rfl q1
        · refine r_aload_n dX10_part_48 rfl ?_
          refine m_callV0 dX10_part_49 mf_X10_fail ml_RX10_291 (ok_X10_fail (d := d - 1) hE (by omega) _ ) rfl rfl rfl (Nat.le_of_ble_eq_true rfl) (by omega) ?_
          rw [er_fail hEr]
          refine r_aload_n dX10_part_52 rfl ?_
          refine m_get dX10_part_53 fl_RX10_281 rfl ?_
          refine r_if_ne (tgt := 63) dX10_part_56 (by decide) (fun q2 => ?_) (fun q2 => ?_)
          · refine r_iload_n dX10_part_63 rfl ?_
            refine r_iret dX10_part_64 rfl rfl ?_
            exact ⟨_, rfl, Kp.erI (by unfold partG; rw [if_neg cA]) hEr⟩
          · exact absurd q2 (by rw [hEr.2.1]; decide)
    · exact absurd c1 (by rw [hEr.2.1]; decide)

