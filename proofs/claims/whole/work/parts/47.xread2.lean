def RdS (σ σ' : XSt) : Prop := σ'.1 4 0 2 = 0 ∧ (∀ c i k, ¬ (c = 4 ∧ i = 0) → σ'.1 c i k = σ.1 c i k) ∧ ∀ c i, c ≠ 29 → σ'.2 c i = σ.2 c i
def RdK (B : hH) (am : XAd) (S : XSh) (σ : XSt) (t : TB) (v : Option Value) (h' : hH) : Prop := match textG t with
  | .error y => v = some .null ∧ ∃ σ', h' = xH B am S σ' ∧ y ≤ 160 ∧ σ'.1 4 0 3 = nI y ∧ RdS σ σ'
  | .ok r => ∃ (q1 q2 : Nat) (fb : Nat → Int32) (σ' : XSt), v = some (.ref q1) ∧ xH B am S σ' q1 = none ∧ q2 ≠ q1 ∧ xH B am S σ' q2 = none ∧ h' = hu (hu (xH B am S σ') q2 (.inl (0, (r.1.1 ++ r.2.1.1 ++ r.2.2.1).length, .inl fb))) q1 (.inr (5, [.ref q2, .int (nI r.1.1.length), .int (nI (r.1.1 ++ r.2.1.1).length)])) ∧ (r.1.1 ++ r.2.1.1 ++ r.2.2.1).length ≤ 160 ∧ (∀ j, j < (r.1.1 ++ r.2.1.1 ++ r.2.2.1).length → fb j = (r.1.1 ++ r.2.1.1 ++ r.2.2.1).getD j 0) ∧ RdS σ σ'
theorem rd_key6 (t : TB) (p : Nat) : ctok (tk t p) = 6 ↔ (tk t p).1 = 1 ∧ (tk t p).2.2.1 = 2436392 := by
  have h := ct_lo (tk_ok t p) (k := 6) (by decide); rw [wtok_6] at h; exact h
theorem rd_key7 (t : TB) (p : Nat) : ctok (tk t p) = 7 ↔ (tk t p).1 = 1 ∧ (tk t p).2.2.1 = 8863997 := by
  have h := ct_lo (tk_ok t p) (k := 7) (by decide); rw [wtok_7] at h; exact h
theorem rd_key8 (t : TB) (p : Nat) : ctok (tk t p) = 8 ↔ (tk t p).1 = 1 ∧ (tk t p).2.2.1 = 307058 := by
  have h := ct_lo (tk_ok t p) (k := 8) (by decide); rw [wtok_8] at h; exact h
theorem rx_first {S : XSh} {σ : XSt} {t : TB} (hT : XT σ t) : OkX t σ [] 0 (f_X4_next S (xp (xp (xp σ 4 0 4 0) 4 0 8 0) 4 0 3 (-1))) := by
  have hT' : XT (xp (xp (xp σ 4 0 4 0) 4 0 8 0) 4 0 3 (-1)) t := ((hT.xp (by decide) _).xp (by decide) _).xp (by decide) _
  have h4 : (xp (xp (xp σ 4 0 4 0) 4 0 8 0) 4 0 3 (-1)).1 4 0 4 = nI 0 := by rw [xp_o (by decide), xp_o (by decide), xp_s]; rfl
  obtain ⟨q, nb, e, hq, g1, g2⟩ := nx_eq (S := S) hT' h4 (Nat.zero_le _)
  have sm : SmR σ (xp (xp (xp σ 4 0 4 0) 4 0 8 0) 4 0 3 (-1)) := (((SmR.rf σ).xp (by omega) _).xp (by omega) _).xp (by omega) _
  rw [e]
  refine ⟨⟨Nat.zero_le _, rfl, rfl, ⟨q, hq, rfl, g1⟩, g2⟩, ?_, ⟨by decide, ?_⟩, fun i hi => absurd hi (Nat.not_lt_zero i), sm.xn _ _ _ _⟩
  · show (xp (xp (xp σ 4 0 4 0) 4 0 8 0) 4 0 3 (-1)).1 4 0 3 = -1
    exact xp_s _ _ _ _ _
  · show (xp (xp (xp σ 4 0 4 0) 4 0 8 0) 4 0 3 (-1)).1 4 0 8 = nI 0
    rw [xp_o (by decide), xp_s]; rfl
theorem StX.smr {t : TB} {σ0 σ : XSt} {x : Sx2} (h : StX t σ0 x σ) : SmR σ0 σ := by
  cases x with
  | error y => exact h.2.2.2
  | ok a => exact h.2.2.2.2.2
/-- what the three clauses and the end come to -/
theorem rx_end (t : TB) : match textG t with
    | .error y => tkG t 13 (bd (bd (bd (.ok ([], 0)) (partG t 2436392)) (partG t 8863997)) (partG t 307058)) = .error y
    | .ok r => ∃ p1 p2 p4, bd (.ok ([], 0)) (partG t 2436392) = .ok (r.1.1, p1) ∧ bd (bd (.ok ([], 0)) (partG t 2436392)) (partG t 8863997) = .ok (r.1.1 ++ r.2.1.1, p2) ∧ tkG t 13 (bd (bd (bd (.ok ([], 0)) (partG t 2436392)) (partG t 8863997)) (partG t 307058)) = .ok (r.1.1 ++ r.2.1.1 ++ r.2.2.1, p4) := by
  have h1 : bd (.ok ([], 0)) (partG t 2436392) = fin [] (partG t 2436392 0) := rfl
  rw [h1]
  unfold textG
  cases e1 : partG t 2436392 0 with
  | error y => rfl
  | ok a =>
    have h2 : bd (fin [] (.ok a)) (partG t 8863997) = fin ([] ++ a.1) (partG t 8863997 a.2.2) := rfl
    rw [h2]
    dsimp only
    cases e2 : partG t 8863997 a.2.2 with
    | error y => rfl
    | ok b =>
      have h3 : bd (fin ([] ++ a.1) (.ok b)) (partG t 307058) = fin ([] ++ a.1 ++ b.1) (partG t 307058 b.2.2) := rfl
      rw [h3]
      dsimp only
      cases e3 : partG t 307058 b.2.2 with
      | error y => rfl
      | ok c =>
        have h13 := ct_13 (tk_ok t c.2.2)
        have h4 : tkG t 13 (fin ([] ++ a.1 ++ b.1) (.ok c)) = if ctok (tk t c.2.2) = 13 then .ok ([] ++ a.1 ++ b.1 ++ c.1, (tk t c.2.2).2.2.2) else .error (tk t c.2.2).2.1 := rfl
        rw [h4]
        dsimp only
        by_cases z : (tk t c.2.2).1 = 0
        · rw [if_pos z, if_pos (h13.mpr z)]
          exact ⟨_, _, _, rfl, rfl, rfl⟩
        · rw [if_neg z, if_neg (fun y => z (h13.mp y))]
theorem hu_swap (h : hH) {a b : Nat} (n : a ≠ b) (e1 e2 e3 : hE) : hu (hu (hu h a e1) b e2) a e3 = hu (hu h b e2) a e3 := by
  funext x
  by_cases h1 : x = a
  · subst h1; rw [hu_eq, hu_eq]
  · rw [hu_ne h1, hu_ne h1]
    by_cases h2 : x = b
    · subst h2; rw [hu_eq, hu_eq]
    · rw [hu_ne h2, hu_ne h2, hu_ne h1]
set_option maxRecDepth 100000 in
set_option maxHeartbeats 2000000 in
theorem mk_X4_read {g : GC} {B : hH} {am : XAd} {S : XSh} {d : Nat} (hE : XOk am S) (hX : GX g) (hd : 50 ≤ d) (σ : XSt) (t : TB) (hT : XT σ t) : AM g d 2 1003 yX4_read cX4_read 3 (some (.object "OldBottles$Rule")) [.ref (am 4 0)] (xH B am S σ) (RdK B am S σ t) := by
  refine AM.of2 (own := RX4) (nm := "read") (L0 := [(0, .ref (am 4 0))]) (by decide) rfl rfl (Nat.le_of_ble_eq_true rfl) rfl ?_
  refine r_aload_n dX4_read_0 rfl ?_
  refine r_iconst (v := (0 : Int32)) dX4_read_1 (by decide) ?_
  refine v_put (c := 4) (i := 0) (k := 4) hE (fun _ _ => rfl) dX4_read_2 fp_RX4_26 (Nat.le_of_ble_eq_true rfl) rfl rfl (fun _ => Nat.le_of_ble_eq_true rfl) (fun _ _ => rfl) ?_
  refine r_aload_n dX4_read_5 rfl ?_
  refine r_iconst (v := (0 : Int32)) dX4_read_6 (by decide) ?_
  refine v_put (c := 4) (i := 0) (k := 8) hE (fun _ _ => rfl) dX4_read_7 fp_RX4_29 (Nat.le_of_ble_eq_true rfl) rfl rfl (fun _ => Nat.le_of_ble_eq_true rfl) (fun _ _ => rfl) ?_
  refine r_aload_n dX4_read_10 rfl ?_
  refine r_iconst (v := (-1 : Int32)) dX4_read_11 (by decide) ?_
  refine v_put (c := 4) (i := 0) (k := 3) hE (fun _ _ => rfl) dX4_read_12 fp_RX4_19 (Nat.le_of_ble_eq_true rfl) rfl rfl (fun _ => Nat.le_of_ble_eq_true rfl) (fun _ _ => rfl) ?_
  refine r_aload_n dX4_read_15 rfl ?_
  have hT' : XT (xp (xp (xp σ 4 0 4 0) 4 0 8 0) 4 0 3 (-1)) t := ((hT.xp (by decide) _).xp (by decide) _).xp (by decide) _
  have h0 := rx_first (S := S) hT
  refine v_call (c := 4) (i := 0) (As := []) hE (fun _ _ => rfl) (Nat.le_of_ble_eq_true rfl) dX4_read_16 mf_X4_next ml_RX4_32 (ok_X4_next (d := d - 1) hE hX (by omega) _ ⟨t.2, hT'.2.1, hT'.1⟩ ⟨0, by decide, by rw [xp_o (by decide), xp_o (by decide), xp_s]; rfl⟩) rfl rfl rfl rfl (Nat.le_of_ble_eq_true rfl) (by omega) (fun v0 s0 e0 => ?_)
  obtain ⟨rfl, e0⟩ := e0
  subst e0
  refine r_aload_n dX4_read_19 rfl ?_
  refine r_bipush (v := (6 : Int32)) dX4_read_20 (by decide) ?_
  refine v_call (c := 4) (i := 0) (As := [.int 6]) hE (fun _ _ => rfl) (Nat.le_of_ble_eq_true rfl) dX4_read_22 mf_X4_readClause ml_RX4_35 (xm_readClause (d := d - 1) (w := 6) hE hX hT (by omega) (by decide) (rd_key6 t) (.ok ([], 0)) _ ⟨Nat.le_refl 0, h0⟩) rfl rfl rfl rfl (Nat.le_of_ble_eq_true rfl) (by omega) (fun v1 s1 k1 => ?_)
  obtain ⟨rfl, k1⟩ := k1
  refine r_aload_n dX4_read_25 rfl ?_
  refine v_getI (c := 4) (x := s1.1 4 0 8) hE (fun _ _ => rfl) (fun _ => rfl) dX4_read_26 fl_RX4_29 (Nat.le_of_ble_eq_true rfl) rfl ?_
  refine r_istore_n dX4_read_29 (by decide) ?_
  refine r_aload_n dX4_read_30 rfl ?_
  refine r_bipush (v := (7 : Int32)) dX4_read_31 (by decide) ?_
  refine v_call (c := 4) (i := 0) (As := [.int 7]) hE (fun _ _ => rfl) (Nat.le_of_ble_eq_true rfl) dX4_read_33 mf_X4_readClause ml_RX4_35 (xm_readClause (d := d - 1) (w := 7) hE hX hT (by omega) (by decide) (rd_key7 t) _ _ k1) rfl rfl rfl rfl (Nat.le_of_ble_eq_true rfl) (by omega) (fun v2 s2 k2 => ?_)
  obtain ⟨rfl, k2⟩ := k2
  refine r_aload_n dX4_read_36 rfl ?_
  refine v_getI (c := 4) (x := s2.1 4 0 8) hE (fun _ _ => rfl) (fun _ => rfl) dX4_read_37 fl_RX4_29 (Nat.le_of_ble_eq_true rfl) rfl ?_
  refine r_istore_n dX4_read_40 (by decide) ?_
  refine r_aload_n dX4_read_41 rfl ?_
  refine r_bipush (v := (8 : Int32)) dX4_read_42 (by decide) ?_
  refine v_call (c := 4) (i := 0) (As := [.int 8]) hE (fun _ _ => rfl) (Nat.le_of_ble_eq_true rfl) dX4_read_44 mf_X4_readClause ml_RX4_35 (xm_readClause (d := d - 1) (w := 8) hE hX hT (by omega) (by decide) (rd_key8 t) _ _ k2) rfl rfl rfl rfl (Nat.le_of_ble_eq_true rfl) (by omega) (fun v3 s3 k3 => ?_)
  obtain ⟨rfl, k3⟩ := k3
  refine r_aload_n dX4_read_47 rfl ?_
  refine r_bipush (v := (13 : Int32)) dX4_read_48 (by decide) ?_
  refine v_call (c := 4) (i := 0) (As := [.int 13]) hE (fun _ _ => rfl) (Nat.le_of_ble_eq_true rfl) dX4_read_50 mf_X4_take ml_RX4_39 (xm_take (d := d - 1) (w := 13) hE hX hT (by omega) (by decide) _ _ k3) rfl rfl rfl rfl (Nat.le_of_ble_eq_true rfl) (by omega) (fun v4 s4 k4 => ?_)
  obtain ⟨rfl, k4⟩ := k4
  refine r_aload_n dX4_read_53 rfl ?_
  refine r_iconst (v := (0 : Int32)) dX4_read_54 (by decide) ?_
  refine v_put (c := 4) (i := 0) (k := 2) hE (fun _ _ => rfl) dX4_read_55 fp_RX4_23 (Nat.le_of_ble_eq_true rfl) rfl rfl (fun _ => Nat.le_of_ble_eq_true rfl) (fun _ _ => rfl) ?_
  have hS : RdS σ (xp s4 4 0 2 0) := by
    have sm := k4.smr
    refine ⟨xp_s _ _ _ _ _, fun c i k q => ?_, fun c i q => sm.2 c i q⟩
    rw [xp_o (fun z => q ⟨z.1, z.2.1⟩)]
    exact sm.1 c i k (fun z => q ⟨z.1, z.2.1⟩)
  have he := rx_end t
  refine r_aload_n dX4_read_58 rfl ?_
  refine v_getI (c := 4) (x := s4.1 4 0 3) hE (fun _ _ => rfl) (fun _ => rfl) dX4_read_59 fl_RX4_19 (Nat.le_of_ble_eq_true rfl) (xp_o (by decide)) ?_
  refine r_iconst (v := (-1 : Int32)) dX4_read_62 (by decide) ?_
  refine r_icmp_ne (tgt := 89) dX4_read_63 (by decide) (fun c => ?_) (fun c => ?_)
  · refine r_null dX4_read_89 ?_
    refine r_aret dX4_read_90 rfl (Or.inl ⟨_, rfl⟩) (Or.inl rfl) ?_
    unfold RdK
    cases ee : textG t with
    | error y =>
      rw [ee] at he
      rw [he] at k4
      have k5 : ErX σ y s4 := k4
      exact ⟨rfl, _, rfl, k5.1.1, by rw [xp_o (by decide)]; exact k5.1.2, hS⟩
    | ok r =>
      rw [ee] at he
      obtain ⟨p1, p2, p4, g1, g2, g4⟩ := he
      rw [g4] at k4
      exact absurd k4.2.2.1 c
  · cases ee : textG t with
    | error y =>
      rw [ee] at he
      rw [he] at k4
      have k5 : ErX σ y s4 := k4
      exact absurd (show nI y < 0 by rw [← k5.1.2, c]; decide) (nI_pos (by have := k5.1.1; omega))
    | ok r =>
      rw [ee] at he
      obtain ⟨p1, p2, p4, g1, g2, g4⟩ := he
      rw [g4] at k4
      rw [g2] at k2
      rw [g1] at k1
      have hl := k4.2.2.2.1
      have l1 := k1.2.2.2.1
      have l2 := k2.2.2.2.1
      have hc := k4.2.2.2.2.1
      refine r_new dX4_read_66 nw_RX4_42 (by decide) (by decide) (fun q1 hq1 => ?_)
      have n1 : ∀ c i, i < lim S c → am c i ≠ q1 := fun c i q z => by rw [← z, xH_at hE _ q] at hq1; cases hq1
      refine r_dup dX4_read_69 rfl ?_
      refine r_aload_n dX4_read_70 rfl ?_
      refine r_getf (v := .ref (am 29 0)) dX4_read_71 fl_RX4_15 (by rw [hu_ne (n1 4 0 (Nat.le_of_ble_eq_true rfl))]; exact xH_at hE _ (c := 4) (i := 0) (Nat.le_of_ble_eq_true rfl)) rfl ?_
      refine r_aload_n dX4_read_74 rfl ?_
      refine r_getf (v := .int ((xp s4 4 0 2 0).1 4 0 8)) dX4_read_75 fl_RX4_29 (by rw [hu_ne (n1 4 0 (Nat.le_of_ble_eq_true rfl))]; exact xH_at hE _ (c := 4) (i := 0) (Nat.le_of_ble_eq_true rfl)) rfl ?_
      rw [show (xp s4 4 0 2 0).1 4 0 8 = nI (r.1.1 ++ r.2.1.1 ++ r.2.2.1).length from (xp_o (by decide)).trans hl.2]
      refine r_callS (c1 := 1) (n1 := 1000) (d1 := d - 1) (As := [.ref (am 29 0), .int (nI (r.1.1 ++ r.2.1.1 ++ r.2.2.1).length)]) dX4_read_78 mf_J7_copyOf_59c91 ml_RX4_44 (ok_copyOf hX (by omega) (N := 160) (f := (xp s4 4 0 2 0).2 29 0) (by rw [hu_ne (n1 29 0 (Nat.le_of_ble_eq_true rfl))]; exact xH_at hE _ (c := 29) (i := 0) (Nat.le_of_ble_eq_true rfl)) (by decide) hl.1) rfl rfl (Nat.le_of_ble_eq_true rfl) (by omega) (by decide) (by decide) (fun v h' hh => ?_)
      obtain ⟨q2, fb, hq2, rfl, hfb, rfl⟩ := hh
      have n2 : q1 ≠ q2 := fun z => by rw [← z, hu_eq] at hq2; cases hq2
      refine r_iload_n dX4_read_81 rfl ?_
      refine r_iload_n dX4_read_82 rfl ?_
      refine r_callI (d1 := d - 1) (c1 := 0) (n1 := 0) (As := [.ref q2, .int (s1.1 4 0 8), .int (s2.1 4 0 8)]) dX4_read_83 mf_X5_init ml_RX4_50 (ok_X5_init (by omega) (by rw [hu_ne n2]; exact hu_eq _ _ _)) rfl rfl (Nat.le_of_ble_eq_true rfl) (by omega) (Nat.zero_le _) (Nat.zero_le _) (fun v h' hh => ?_)
      obtain ⟨rfl, rfl⟩ := hh
      refine r_goto (tgt := 90) dX4_read_86 (by decide) ?_
      refine r_aret dX4_read_90 rfl (Or.inl ⟨_, rfl⟩) (Or.inr ⟨_, rfl⟩) ?_
      unfold RdK
      rw [ee]
      refine ⟨q1, q2, fb, _, rfl, hq1, n2.symm, by rw [hu_ne n2.symm] at hq2; exact hq2, ?_, hl.1, fun j hj => (hfb j hj).trans (hc j hj), hS⟩
      rw [l1.2, l2.2]
      exact hu_swap _ n2 _ _ _
