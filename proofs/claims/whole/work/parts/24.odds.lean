theorem within_ct (x : Int32) : Ct (f_X10_within x 0 99) 99 := by
  unfold f_X10_within
  split
  · split
    · next a b =>
      obtain ⟨k, hk, e⟩ := nI_of_rg (N := 99) (by decide) a b
      exact ⟨k, hk, e⟩
    · exact ⟨99, Nat.le_refl _, rfl⟩
  · exact ⟨0, Nat.zero_le _, rfl⟩
theorem dbt_ct (σ : MSt) (b : Int32) : Ct (dbt σ b) 99 := within_ct _
theorem wt_k (k : Int32) : f_X10_weightOf k = 5 ∨ f_X10_weightOf k = 3 ∨ f_X10_weightOf k = 1 ∨ f_X10_weightOf k = 2 := by
  unfold f_X10_weightOf
  (repeat' split) <;> simp
theorem wt_n (k : Int32) : ∃ m : Nat, 1 ≤ m ∧ m ≤ 5 ∧ f_X10_weightOf k = nI m := by
  rcases wt_k k with e | e | e | e
  · exact ⟨5, by omega, by omega, e⟩
  · exact ⟨3, by omega, by omega, e⟩
  · exact ⟨1, by omega, by omega, e⟩
  · exact ⟨2, by omega, by omega, e⟩
/-- what stands above and below the line -/
theorem odds_n {dd : Int32} (hd : Ct dd 99) (k : Int32) : ∃ a b : Nat, 5 ≤ a ∧ a ≤ 500 ∧ b ≤ 500 ∧ Int32.toInt64 (f_X10_weightOf 1) * Int32.toInt64 (100 - dd) = lN a ∧ Int32.toInt64 (f_X10_weightOf 1) * Int32.toInt64 (100 - dd) + Int32.toInt64 (f_X10_weightOf k) * Int32.toInt64 (dd + 1) = lN (a + b) := by
  obtain ⟨x, hx, rfl⟩ := hd
  obtain ⟨m, h1, h2, e⟩ := wt_n k
  have e1 : f_X10_weightOf 1 = nI 5 := rfl
  have e2 : (100 : Int32) - nI x = nI (100 - x) := pk_sub (a := 100) (by omega)
  rw [e, e1, e2, nI_1, nI_l (by omega), nI_l (by omega), nI_l (by omega), nI_l (by omega), lN_mul, lN_mul, lN_add]
  exact ⟨5 * (100 - x), m * (x + 1), by omega, by omega, Nat.le_trans (Nat.mul_le_mul h2 (Nat.le_refl _)) (by omega), rfl, rfl⟩
theorem odds_c1 {dd : Int32} (hd : Ct dd 99) : CtL (Int32.toInt64 (f_X10_weightOf 1) * Int32.toInt64 (100 - dd)) 2000 := by
  obtain ⟨a, b, h1, h2, h3, e1, -⟩ := odds_n hd 0
  exact ⟨a, by omega, e1⟩
theorem odds_c2 {dd : Int32} (hd : Ct dd 99) (k : Int32) : CtL (Int32.toInt64 (f_X10_weightOf 1) * Int32.toInt64 (100 - dd) + Int32.toInt64 (f_X10_weightOf k) * Int32.toInt64 (dd + 1)) 2000 := by
  obtain ⟨a, b, h1, h2, h3, -, e2⟩ := odds_n hd k
  exact ⟨a + b, by omega, e2⟩
theorem commonL (p q : Int64) : ∀ (fuel a b : Nat), b < fuel → a < 2000 → b < 2000 → f_X10_common_L17 fuel p q (lN a) (lN b) = lN (Nat.gcd a b) := by
  intro fuel
  induction fuel with
  | zero => intro a b h; omega
  | succ n ih =>
    intro a b h1 h2 h3
    rw [f_X10_common_L17]
    rcases Nat.eq_zero_or_pos b with q0 | q0
    · subst q0
      rw [if_pos (show lg_cmp (lN 0) 0 = 0 from (lg_eq _ _).mpr rfl), Nat.gcd_zero_right]
    · rw [if_neg (fun z => by have := (lg_eq _ _).mp z; have := (pk_lEQ (b := 0) (by omega) (by omega)).mp this; omega), pk_lRem (by omega) q0 (by omega), ih b (a % b) (by have := Nat.mod_lt a q0; omega) h3 (by have := Nat.mod_lt a q0; omega)]
      rw [Nat.gcd_comm b (a % b), ← Nat.gcd_rec, Nat.gcd_comm b a]
theorem f_common {a b : Nat} (ha : a < 2000) (hb : b < 2000) : f_X10_common (lN a) (lN b) = lN (Nat.gcd a b) := by
  unfold f_X10_common
  rw [if_pos (CtL.ge (by decide) ⟨a, ha, rfl⟩)]
  exact commonL _ _ 2001 a b (by omega) ha hb
theorem odds_nz {dd : Int32} (hd : Ct dd 99) (k : Int32) : ¬ f_X10_common (Int32.toInt64 (f_X10_weightOf 1) * Int32.toInt64 (100 - dd)) (Int32.toInt64 (f_X10_weightOf 1) * Int32.toInt64 (100 - dd) + Int32.toInt64 (f_X10_weightOf k) * Int32.toInt64 (dd + 1)) = 0 := by
  obtain ⟨a, b, h1, h2, h3, e1, e2⟩ := odds_n hd k
  rw [e2, e1, f_common (by omega) (by omega)]
  have hg : 0 < Nat.gcd a (a + b) := Nat.gcd_pos_of_pos_left _ (by omega)
  have hl : Nat.gcd a (a + b) ≤ a := Nat.gcd_le_left _ (by omega)
  intro z
  have := (pk_lEQ (b := 0) (by omega) (by omega)).mp z
  omega

def f_X10_odds (σ : MSt) (p1 : Int32) (p2 : Int32) : Int64 := (if (f_X10_isBottle σ p1) = 0 then (-4611686018427387904 : Int64) else (if (f_X10_in (Int32.toInt64 p2) (0 : Int64) (1 : Int64)) = 0 then (-4611686018427387904 : Int64) else (if (f_X10_isBarred σ p1) = 0 then (if (σ.2.2 16 (Int32.toNatClampNeg p1)) = (1 : Int32) then (if p2 = 0 then (((Int32.toInt64 (f_X10_weightOf (1 : Int32))) * (Int32.toInt64 ((100 : Int32) - (dbt σ p1)))) / (f_X10_common ((Int32.toInt64 (f_X10_weightOf (1 : Int32))) * (Int32.toInt64 ((100 : Int32) - (dbt σ p1)))) (((Int32.toInt64 (f_X10_weightOf (1 : Int32))) * (Int32.toInt64 ((100 : Int32) - (dbt σ p1)))) + ((Int32.toInt64 (f_X10_weightOf (5 : Int32))) * (Int32.toInt64 ((dbt σ p1) + (1 : Int32))))))) else ((((Int32.toInt64 (f_X10_weightOf (1 : Int32))) * (Int32.toInt64 ((100 : Int32) - (dbt σ p1)))) + ((Int32.toInt64 (f_X10_weightOf (5 : Int32))) * (Int32.toInt64 ((dbt σ p1) + (1 : Int32))))) / (f_X10_common ((Int32.toInt64 (f_X10_weightOf (1 : Int32))) * (Int32.toInt64 ((100 : Int32) - (dbt σ p1)))) (((Int32.toInt64 (f_X10_weightOf (1 : Int32))) * (Int32.toInt64 ((100 : Int32) - (dbt σ p1)))) + ((Int32.toInt64 (f_X10_weightOf (5 : Int32))) * (Int32.toInt64 ((dbt σ p1) + (1 : Int32)))))))) else (if (σ.2.2 16 (Int32.toNatClampNeg p1)) = (3 : Int32) then (if p2 = 0 then (((Int32.toInt64 (f_X10_weightOf (1 : Int32))) * (Int32.toInt64 ((100 : Int32) - (dbt σ p1)))) / (f_X10_common ((Int32.toInt64 (f_X10_weightOf (1 : Int32))) * (Int32.toInt64 ((100 : Int32) - (dbt σ p1)))) (((Int32.toInt64 (f_X10_weightOf (1 : Int32))) * (Int32.toInt64 ((100 : Int32) - (dbt σ p1)))) + ((Int32.toInt64 (f_X10_weightOf (5 : Int32))) * (Int32.toInt64 ((dbt σ p1) + (1 : Int32))))))) else ((((Int32.toInt64 (f_X10_weightOf (1 : Int32))) * (Int32.toInt64 ((100 : Int32) - (dbt σ p1)))) + ((Int32.toInt64 (f_X10_weightOf (5 : Int32))) * (Int32.toInt64 ((dbt σ p1) + (1 : Int32))))) / (f_X10_common ((Int32.toInt64 (f_X10_weightOf (1 : Int32))) * (Int32.toInt64 ((100 : Int32) - (dbt σ p1)))) (((Int32.toInt64 (f_X10_weightOf (1 : Int32))) * (Int32.toInt64 ((100 : Int32) - (dbt σ p1)))) + ((Int32.toInt64 (f_X10_weightOf (5 : Int32))) * (Int32.toInt64 ((dbt σ p1) + (1 : Int32)))))))) else (if p2 = 0 then (((Int32.toInt64 (f_X10_weightOf (1 : Int32))) * (Int32.toInt64 ((100 : Int32) - (dbt σ p1)))) / (f_X10_common ((Int32.toInt64 (f_X10_weightOf (1 : Int32))) * (Int32.toInt64 ((100 : Int32) - (dbt σ p1)))) (((Int32.toInt64 (f_X10_weightOf (1 : Int32))) * (Int32.toInt64 ((100 : Int32) - (dbt σ p1)))) + ((Int32.toInt64 (f_X10_weightOf (σ.2.2 16 (Int32.toNatClampNeg p1)))) * (Int32.toInt64 ((dbt σ p1) + (1 : Int32))))))) else ((((Int32.toInt64 (f_X10_weightOf (1 : Int32))) * (Int32.toInt64 ((100 : Int32) - (dbt σ p1)))) + ((Int32.toInt64 (f_X10_weightOf (σ.2.2 16 (Int32.toNatClampNeg p1)))) * (Int32.toInt64 ((dbt σ p1) + (1 : Int32))))) / (f_X10_common ((Int32.toInt64 (f_X10_weightOf (1 : Int32))) * (Int32.toInt64 ((100 : Int32) - (dbt σ p1)))) (((Int32.toInt64 (f_X10_weightOf (1 : Int32))) * (Int32.toInt64 ((100 : Int32) - (dbt σ p1)))) + ((Int32.toInt64 (f_X10_weightOf (σ.2.2 16 (Int32.toNatClampNeg p1)))) * (Int32.toInt64 ((dbt σ p1) + (1 : Int32)))))))))) else (Int32.toInt64 p2))))
set_option maxRecDepth 100000 in
set_option maxHeartbeats 1000000 in
theorem ok_X10_odds {g : GC} {E : ME} {d : Nat} (hE : MEok E) (hd : 43 ≤ d) (σ : MSt) (p1 : Int32) (p2 : Int32) (h0 : MInv σ) (h1 : ROk σ) : MC g E d yX10_odds cX10_odds 10 (some FieldType.long) [.int p1, .int p2] (fun v σ' => v = some (.long (f_X10_odds σ p1 p2)) ∧ Sm σ σ') σ := by
  refine AM.of2 (own := RX10) (nm := "odds") (L0 := [(0, .ref E.2.2), (1, .int p1), (2, .int p2)]) (by decide) rfl rfl (Nat.le_of_ble_eq_true rfl) rfl ?_
  refine r_aload_n dX10_odds_0 rfl ?_
  refine r_iload_n dX10_odds_1 rfl ?_
  refine m_callW dX10_odds_2 mf_X10_isBottle ml_RX10_186 (ok_X10_isBottle (d := d - 1) hE (by omega) _ _) rfl rfl rfl (Nat.le_of_ble_eq_true rfl) (by omega) ?_
  refine r_if_eq (tgt := 18) dX10_odds_5 (by decide) (fun c1 => ?_) (fun c1 => ?_)
  · refine r_ldc2 dX10_odds_18 kc_RX10_398 ?_
    refine r_lret dX10_odds_21 rfl ?_
    exact ⟨_, rfl, by rw [f_X10_odds, if_pos c1], Sm.rf _⟩
  · refine r_iload_n dX10_odds_8 rfl ?_
    refine r_i2l dX10_odds_9 ?_
    refine r_lconst (v := (0 : Int64)) dX10_odds_10 (by decide) ?_
    refine r_lconst (v := (1 : Int64)) dX10_odds_11 (by decide) ?_
    refine m_callS dX10_odds_12 mf_X10_in ml_RX10_149 (ok_X10_in (d := d - 1) (by omega) _ _ _) rfl rfl (Nat.le_of_ble_eq_true rfl) (by omega) ?_
    refine r_if_ne (tgt := 22) dX10_odds_15 (by decide) (fun c2 => ?_) (fun c2 => ?_)
    · refine r_aload_n dX10_odds_22 rfl ?_
      refine r_iload_n dX10_odds_23 rfl ?_
      refine m_callW dX10_odds_24 mf_X10_isBarred ml_RX10_209 (ok_X10_isBarred (d := d - 1) hE (by omega) _ _ (by first | exact h0 | exact isBottle_in h0 (by with_reducible assumption)) (by first | exact h0 | exact isBottle_in h0 (by with_reducible assumption))) rfl rfl rfl (Nat.le_of_ble_eq_true rfl) (by omega) ?_
      refine r_if_eq (tgt := 33) dX10_odds_27 (by decide) (fun c3 => ?_) (fun c3 => ?_)
      · refine r_aload_n dX10_odds_33 rfl ?_
        refine r_iload_n dX10_odds_34 rfl ?_
        refine m_call (As := [.int p1]) dX10_odds_35 mf_X10_doubtOf ml_RX10_221 (mk_doubtOf (d := d - 1) hE (by omega) _ _ (by first | exact h0 | exact h1 | exact isBottle_in h0 (by with_reducible assumption)) (by first | exact h0 | exact h1 | exact isBottle_in h0 (by with_reducible assumption)) (by first | exact h0 | exact h1 | exact isBottle_in h0 (by with_reducible assumption))) rfl rfl rfl (Nat.le_of_ble_eq_true rfl) (by omega) (fun v s k => ?_)
        obtain ⟨rfl, hc⟩ := k
        obtain ⟨f1, w1, A1⟩ := s
        obtain ⟨hA, hj⟩ := hc
        have hA : A1 = σ.2.2 := hA
        subst hA
        refine r_istore_n dX10_odds_38 (by decide) ?_
        refine r_iconst (v := (1 : Int32)) dX10_odds_39 (by decide) ?_
        refine m_callS dX10_odds_40 mf_X10_weightOf ml_RX10_215 (ok_X10_weightOf (d := d - 1) (by omega) _) rfl rfl (Nat.le_of_ble_eq_true rfl) (by omega) ?_
        refine r_i2l dX10_odds_43 ?_
        refine r_bipush (v := (100 : Int32)) dX10_odds_44 (by decide) ?_
        refine r_iload_n dX10_odds_46 rfl ?_
        refine r_isub dX10_odds_47 ?_
        refine r_i2l dX10_odds_48 ?_
        refine r_lmul dX10_odds_49 ?_
        refine r_lstore dX10_odds_50 (by decide) ?_
        refine r_aload_n dX10_odds_52 rfl ?_
        refine m_get dX10_odds_53 fl_RX10_47 rfl ?_
        refine r_iload_n dX10_odds_56 rfl ?_
        refine m_iald (k := 16) (N := 24) hE (by decide) rfl rfl dX10_odds_57 (by exact isBottle_in h0 (by with_reducible assumption)) ?_
        refine r_iconst (v := (1 : Int32)) dX10_odds_58 (by decide) ?_
        refine r_icmp_eq (tgt := 72) dX10_odds_59 (by decide) (fun c4 => ?_) (fun c4 => ?_)
        · refine r_iconst (v := (5 : Int32)) dX10_odds_72 (by decide) ?_
          refine r_goto (tgt := 82) dX10_odds_73 (by decide) ?_
          refine m_callS dX10_odds_82 mf_X10_weightOf ml_RX10_215 (ok_X10_weightOf (d := d - 1) (by omega) _) rfl rfl (Nat.le_of_ble_eq_true rfl) (by omega) ?_
          refine r_i2l dX10_odds_85 ?_
          refine r_iload_n dX10_odds_86 rfl ?_
          refine r_iconst (v := (1 : Int32)) dX10_odds_87 (by decide) ?_
          refine r_iadd dX10_odds_88 ?_
          refine r_i2l dX10_odds_89 ?_
          refine r_lmul dX10_odds_90 ?_
          refine r_lstore dX10_odds_91 (by decide) ?_
          refine r_lload dX10_odds_93 rfl ?_
          refine r_lload dX10_odds_95 rfl ?_
          refine r_ladd dX10_odds_97 ?_
          refine r_lstore dX10_odds_98 (by decide) ?_
          refine r_iload_n dX10_odds_100 rfl ?_
          refine r_if_ne (tgt := 109) dX10_odds_101 (by decide) (fun c5 => ?_) (fun c5 => ?_)
          · refine r_lload dX10_odds_109 rfl ?_
            refine r_lload dX10_odds_111 rfl ?_
            refine r_lload dX10_odds_113 rfl ?_
            refine m_callS dX10_odds_115 mf_X10_common ml_RX10_400 (ok_X10_common (d := d - 1) (by omega) _ _ (by with_reducible first | exact odds_c1 (dbt_ct _ _) | exact odds_c2 (dbt_ct _ _) _) (by with_reducible first | exact odds_c1 (dbt_ct _ _) | exact odds_c2 (dbt_ct _ _) _)) rfl rfl (Nat.le_of_ble_eq_true rfl) (by omega) ?_
            refine r_ldiv dX10_odds_118 (by with_reducible exact odds_nz (dbt_ct _ _) _) ?_
            refine r_lret dX10_odds_119 rfl ?_
            exact ⟨_, rfl, by rw [f_X10_odds, if_neg c1, if_neg c2, if_pos c3, if_pos c4, if_neg c5], ⟨rfl, hj⟩⟩
          · refine r_lload dX10_odds_104 rfl ?_
            refine r_goto (tgt := 111) dX10_odds_106 (by decide) ?_
            refine r_lload dX10_odds_111 rfl ?_
            refine r_lload dX10_odds_113 rfl ?_
            refine m_callS dX10_odds_115 mf_X10_common ml_RX10_400 (ok_X10_common (d := d - 1) (by omega) _ _ (by with_reducible first | exact odds_c1 (dbt_ct _ _) | exact odds_c2 (dbt_ct _ _) _) (by with_reducible first | exact odds_c1 (dbt_ct _ _) | exact odds_c2 (dbt_ct _ _) _)) rfl rfl (Nat.le_of_ble_eq_true rfl) (by omega) ?_
            refine r_ldiv dX10_odds_118 (by with_reducible exact odds_nz (dbt_ct _ _) _) ?_
            refine r_lret dX10_odds_119 rfl ?_
            exact ⟨_, rfl, by rw [f_X10_odds, if_neg c1, if_neg c2, if_pos c3, if_pos c4, if_pos c5], ⟨rfl, hj⟩⟩
        · refine r_aload_n dX10_odds_62 rfl ?_
          refine m_get dX10_odds_63 fl_RX10_47 rfl ?_
          refine r_iload_n dX10_odds_66 rfl ?_
          refine m_iald (k := 16) (N := 24) hE (by decide) rfl rfl dX10_odds_67 (by exact isBottle_in h0 (by with_reducible assumption)) ?_
          refine r_iconst (v := (3 : Int32)) dX10_odds_68 (by decide) ?_
          refine r_icmp_ne (tgt := 76) dX10_odds_69 (by decide) (fun c6 => ?_) (fun c6 => ?_)
          · refine r_aload_n dX10_odds_76 rfl ?_
            refine m_get dX10_odds_77 fl_RX10_47 rfl ?_
            refine r_iload_n dX10_odds_80 rfl ?_
            refine m_iald (k := 16) (N := 24) hE (by decide) rfl rfl dX10_odds_81 (by exact isBottle_in h0 (by with_reducible assumption)) ?_
            refine m_callS dX10_odds_82 mf_X10_weightOf ml_RX10_215 (ok_X10_weightOf (d := d - 1) (by omega) _) rfl rfl (Nat.le_of_ble_eq_true rfl) (by omega) ?_
            refine r_i2l dX10_odds_85 ?_
            refine r_iload_n dX10_odds_86 rfl ?_
            refine r_iconst (v := (1 : Int32)) dX10_odds_87 (by decide) ?_
            refine r_iadd dX10_odds_88 ?_
            refine r_i2l dX10_odds_89 ?_
            refine r_lmul dX10_odds_90 ?_
            refine r_lstore dX10_odds_91 (by decide) ?_
            refine r_lload dX10_odds_93 rfl ?_
            refine r_lload dX10_odds_95 rfl ?_
            refine r_ladd dX10_odds_97 ?_
            refine r_lstore dX10_odds_98 (by decide) ?_
            refine r_iload_n dX10_odds_100 rfl ?_
            refine r_if_ne (tgt := 109) dX10_odds_101 (by decide) (fun c7 => ?_) (fun c7 => ?_)
            · refine r_lload dX10_odds_109 rfl ?_
              refine r_lload dX10_odds_111 rfl ?_
              refine r_lload dX10_odds_113 rfl ?_
              refine m_callS dX10_odds_115 mf_X10_common ml_RX10_400 (ok_X10_common (d := d - 1) (by omega) _ _ (by with_reducible first | exact odds_c1 (dbt_ct _ _) | exact odds_c2 (dbt_ct _ _) _) (by with_reducible first | exact odds_c1 (dbt_ct _ _) | exact odds_c2 (dbt_ct _ _) _)) rfl rfl (Nat.le_of_ble_eq_true rfl) (by omega) ?_
              refine r_ldiv dX10_odds_118 (by with_reducible exact odds_nz (dbt_ct _ _) _) ?_
              refine r_lret dX10_odds_119 rfl ?_
              exact ⟨_, rfl, by rw [f_X10_odds, if_neg c1, if_neg c2, if_pos c3, if_neg c4, if_neg c6, if_neg c7], ⟨rfl, hj⟩⟩
            · refine r_lload dX10_odds_104 rfl ?_
              refine r_goto (tgt := 111) dX10_odds_106 (by decide) ?_
              refine r_lload dX10_odds_111 rfl ?_
              refine r_lload dX10_odds_113 rfl ?_
              refine m_callS dX10_odds_115 mf_X10_common ml_RX10_400 (ok_X10_common (d := d - 1) (by omega) _ _ (by with_reducible first | exact odds_c1 (dbt_ct _ _) | exact odds_c2 (dbt_ct _ _) _) (by with_reducible first | exact odds_c1 (dbt_ct _ _) | exact odds_c2 (dbt_ct _ _) _)) rfl rfl (Nat.le_of_ble_eq_true rfl) (by omega) ?_
              refine r_ldiv dX10_odds_118 (by with_reducible exact odds_nz (dbt_ct _ _) _) ?_
              refine r_lret dX10_odds_119 rfl ?_
              exact ⟨_, rfl, by rw [f_X10_odds, if_neg c1, if_neg c2, if_pos c3, if_neg c4, if_neg c6, if_pos c7], ⟨rfl, hj⟩⟩
          · refine r_iconst (v := (5 : Int32)) dX10_odds_72 (by decide) ?_
            refine r_goto (tgt := 82) dX10_odds_73 (by decide) ?_
            refine m_callS dX10_odds_82 mf_X10_weightOf ml_RX10_215 (ok_X10_weightOf (d := d - 1) (by omega) _) rfl rfl (Nat.le_of_ble_eq_true rfl) (by omega) ?_
            refine r_i2l dX10_odds_85 ?_
            refine r_iload_n dX10_odds_86 rfl ?_
            refine r_iconst (v := (1 : Int32)) dX10_odds_87 (by decide) ?_
            refine r_iadd dX10_odds_88 ?_
            refine r_i2l dX10_odds_89 ?_
            refine r_lmul dX10_odds_90 ?_
            refine r_lstore dX10_odds_91 (by decide) ?_
            refine r_lload dX10_odds_93 rfl ?_
            refine r_lload dX10_odds_95 rfl ?_
            refine r_ladd dX10_odds_97 ?_
            refine r_lstore dX10_odds_98 (by decide) ?_
            refine r_iload_n dX10_odds_100 rfl ?_
            refine r_if_ne (tgt := 109) dX10_odds_101 (by decide) (fun c8 => ?_) (fun c8 => ?_)
            · refine r_lload dX10_odds_109 rfl ?_
              refine r_lload dX10_odds_111 rfl ?_
              refine r_lload dX10_odds_113 rfl ?_
              refine m_callS dX10_odds_115 mf_X10_common ml_RX10_400 (ok_X10_common (d := d - 1) (by omega) _ _ (by with_reducible first | exact odds_c1 (dbt_ct _ _) | exact odds_c2 (dbt_ct _ _) _) (by with_reducible first | exact odds_c1 (dbt_ct _ _) | exact odds_c2 (dbt_ct _ _) _)) rfl rfl (Nat.le_of_ble_eq_true rfl) (by omega) ?_
              refine r_ldiv dX10_odds_118 (by with_reducible exact odds_nz (dbt_ct _ _) _) ?_
              refine r_lret dX10_odds_119 rfl ?_
              exact ⟨_, rfl, by rw [f_X10_odds, if_neg c1, if_neg c2, if_pos c3, if_neg c4, if_pos c6, if_neg c8], ⟨rfl, hj⟩⟩
            · refine r_lload dX10_odds_104 rfl ?_
              refine r_goto (tgt := 111) dX10_odds_106 (by decide) ?_
              refine r_lload dX10_odds_111 rfl ?_
              refine r_lload dX10_odds_113 rfl ?_
              refine m_callS dX10_odds_115 mf_X10_common ml_RX10_400 (ok_X10_common (d := d - 1) (by omega) _ _ (by with_reducible first | exact odds_c1 (dbt_ct _ _) | exact odds_c2 (dbt_ct _ _) _) (by with_reducible first | exact odds_c1 (dbt_ct _ _) | exact odds_c2 (dbt_ct _ _) _)) rfl rfl (Nat.le_of_ble_eq_true rfl) (by omega) ?_
              refine r_ldiv dX10_odds_118 (by with_reducible exact odds_nz (dbt_ct _ _) _) ?_
              refine r_lret dX10_odds_119 rfl ?_
              exact ⟨_, rfl, by rw [f_X10_odds, if_neg c1, if_neg c2, if_pos c3, if_neg c4, if_pos c6, if_pos c8], ⟨rfl, hj⟩⟩
      · refine r_iload_n dX10_odds_30 rfl ?_
        refine r_i2l dX10_odds_31 ?_
        refine r_lret dX10_odds_32 rfl ?_
        exact ⟨_, rfl, by rw [f_X10_odds, if_neg c1, if_neg c2, if_neg c3], Sm.rf _⟩
    · refine r_ldc2 dX10_odds_18 kc_RX10_398 ?_
      refine r_lret dX10_odds_21 rfl ?_
      exact ⟨_, rfl, by rw [f_X10_odds, if_neg c1, if_pos c2], Sm.rf _⟩

def f_X10_told (σ : MSt) (p1 : Int32) (p2 : Int32) : Int32 := (if (f_X10_isBottle σ p1) = 0 then (-5 : Int32) else (if p2 = (0 : Int32) then (σ.2.2 16 (Int32.toNatClampNeg p1)) else if p2 = (1 : Int32) then (σ.2.2 17 (Int32.toNatClampNeg p1)) else if p2 = (2 : Int32) then (f_X10_barsOf σ p1) else if p2 = (3 : Int32) then (f_X10_oddsOf σ p1) else if p2 = (4 : Int32) then (if (f_X10_isBarred σ p1) = 0 then (0 : Int32) else (1 : Int32)) else if p2 = (5 : Int32) then (f_X10_gapOf σ p1) else if p2 = (6 : Int32) then (f_X10_weightOf (σ.2.2 16 (Int32.toNatClampNeg p1))) else if p2 = (7 : Int32) then (f_X10_ownerOf σ p1) else if p2 = (8 : Int32) then (dbt σ p1) else if p2 = (9 : Int32) then (prc σ p1) else if p2 = (10 : Int32) then (opn σ p1) else (-5 : Int32)))
set_option maxRecDepth 100000 in
set_option maxHeartbeats 1000000 in
theorem ok_X10_told {g : GC} {E : ME} {d : Nat} (hE : MEok E) (hd : 43 ≤ d) (σ : MSt) (p1 : Int32) (p2 : Int32) (h0 : MInv σ) (h1 : ROk σ) : MC g E d yX10_told cX10_told 3 (some FieldType.int) [.int p1, .int p2] (fun v σ' => v = some (.int (f_X10_told σ p1 p2)) ∧ Sm σ σ') σ := by
  refine AM.of2 (own := RX10) (nm := "told") (L0 := [(0, .ref E.2.2), (1, .int p1), (2, .int p2)]) (by decide) rfl rfl (Nat.le_of_ble_eq_true rfl) rfl ?_
  refine r_aload_n dX10_told_0 rfl ?_
  refine r_iload_n dX10_told_1 rfl ?_
  refine m_callW dX10_told_2 mf_X10_isBottle ml_RX10_186 (ok_X10_isBottle (d := d - 1) hE (by omega) _ _) rfl rfl rfl (Nat.le_of_ble_eq_true rfl) (by omega) ?_
  refine r_if_ne (tgt := 11) dX10_told_5 (by decide) (fun c1 => ?_) (fun c1 => ?_)
  · refine r_iload_n dX10_told_11 rfl ?_
    by_cases c2 : p2 = (0 : Int32)
    · refine r_tabK (tgt := 72) dX10_told_12 c2 (by decide) (by decide) rfl (by decide) ?_
      refine r_aload_n dX10_told_72 rfl ?_
      refine m_get dX10_told_73 fl_RX10_47 rfl ?_
      refine r_iload_n dX10_told_76 rfl ?_
      refine m_iald (k := 16) (N := 24) hE (by decide) rfl rfl dX10_told_77 (by exact isBottle_in h0 (by with_reducible assumption)) ?_
      refine r_iret dX10_told_78 rfl rfl ?_
      exact ⟨_, rfl, by rw [f_X10_told, if_neg c1, if_pos c2], Sm.rf _⟩
    by_cases c3 : p2 = (1 : Int32)
    · refine r_tabK (tgt := 79) dX10_told_12 c3 (by decide) (by decide) rfl (by decide) ?_
      refine r_aload_n dX10_told_79 rfl ?_
      refine m_get dX10_told_80 fl_RX10_50 rfl ?_
      refine r_iload_n dX10_told_83 rfl ?_
      refine m_iald (k := 17) (N := 24) hE (by decide) rfl rfl dX10_told_84 (by exact isBottle_in h0 (by with_reducible assumption)) ?_
      refine r_iret dX10_told_85 rfl rfl ?_
      exact ⟨_, rfl, by rw [f_X10_told, if_neg c1, if_neg c2, if_pos c3], Sm.rf _⟩
    by_cases c4 : p2 = (2 : Int32)
    · refine r_tabK (tgt := 86) dX10_told_12 c4 (by decide) (by decide) rfl (by decide) ?_
      refine r_aload_n dX10_told_86 rfl ?_
      refine r_iload_n dX10_told_87 rfl ?_
      refine m_callW dX10_told_88 mf_X10_barsOf ml_RX10_202 (ok_X10_barsOf (d := d - 1) hE (by omega) _ _ (by first | exact h0 | exact h1 | exact isBottle_in h0 (by with_reducible assumption)) (by first | exact h0 | exact h1 | exact isBottle_in h0 (by with_reducible assumption))) rfl rfl rfl (Nat.le_of_ble_eq_true rfl) (by omega) ?_
      refine r_iret dX10_told_91 rfl rfl ?_
      exact ⟨_, rfl, by rw [f_X10_told, if_neg c1, if_neg c2, if_neg c3, if_pos c4], Sm.rf _⟩
    by_cases c5 : p2 = (3 : Int32)
    · refine r_tabK (tgt := 92) dX10_told_12 c5 (by decide) (by decide) rfl (by decide) ?_
      refine r_aload_n dX10_told_92 rfl ?_
      refine r_iload_n dX10_told_93 rfl ?_
      refine m_callW dX10_told_94 mf_X10_oddsOf ml_RX10_206 (ok_X10_oddsOf (d := d - 1) hE (by omega) _ _ (by first | exact h0 | exact h1 | exact isBottle_in h0 (by with_reducible assumption)) (by first | exact h0 | exact h1 | exact isBottle_in h0 (by with_reducible assumption))) rfl rfl rfl (Nat.le_of_ble_eq_true rfl) (by omega) ?_
      refine r_iret dX10_told_97 rfl rfl ?_
      exact ⟨_, rfl, by rw [f_X10_told, if_neg c1, if_neg c2, if_neg c3, if_neg c4, if_pos c5], Sm.rf _⟩
    by_cases c6 : p2 = (4 : Int32)
    · refine r_tabK (tgt := 98) dX10_told_12 c6 (by decide) (by decide) rfl (by decide) ?_
      refine r_aload_n dX10_told_98 rfl ?_
      refine r_iload_n dX10_told_99 rfl ?_
      refine m_callW dX10_told_100 mf_X10_isBarred ml_RX10_209 (ok_X10_isBarred (d := d - 1) hE (by omega) _ _ (by first | exact h0 | exact h1 | exact isBottle_in h0 (by with_reducible assumption)) (by first | exact h0 | exact h1 | exact isBottle_in h0 (by with_reducible assumption))) rfl rfl rfl (Nat.le_of_ble_eq_true rfl) (by omega) ?_
      refine r_if_eq (tgt := 110) dX10_told_103 (by decide) (fun c7 => ?_) (fun c7 => ?_)
      · refine r_iconst (v := (0 : Int32)) dX10_told_110 (by decide) ?_
        refine r_iret dX10_told_111 rfl rfl ?_
        exact ⟨_, rfl, by rw [f_X10_told, if_neg c1, if_neg c2, if_neg c3, if_neg c4, if_neg c5, if_pos c6, if_pos c7], Sm.rf _⟩
      · refine r_iconst (v := (1 : Int32)) dX10_told_106 (by decide) ?_
        refine r_goto (tgt := 111) dX10_told_107 (by decide) ?_
        refine r_iret dX10_told_111 rfl rfl ?_
        exact ⟨_, rfl, by rw [f_X10_told, if_neg c1, if_neg c2, if_neg c3, if_neg c4, if_neg c5, if_pos c6, if_neg c7], Sm.rf _⟩
    by_cases c8 : p2 = (5 : Int32)
    · refine r_tabK (tgt := 112) dX10_told_12 c8 (by decide) (by decide) rfl (by decide) ?_
      refine r_aload_n dX10_told_112 rfl ?_
      refine r_iload_n dX10_told_113 rfl ?_
      refine m_callW dX10_told_114 mf_X10_gapOf ml_RX10_212 (ok_X10_gapOf (d := d - 1) hE (by omega) _ _ (by first | exact h0 | exact h1 | exact isBottle_in h0 (by with_reducible assumption))) rfl rfl rfl (Nat.le_of_ble_eq_true rfl) (by omega) ?_
      refine r_iret dX10_told_117 rfl rfl ?_
      exact ⟨_, rfl, by rw [f_X10_told, if_neg c1, if_neg c2, if_neg c3, if_neg c4, if_neg c5, if_neg c6, if_pos c8], Sm.rf _⟩
    by_cases c9 : p2 = (6 : Int32)
    · refine r_tabK (tgt := 118) dX10_told_12 c9 (by decide) (by decide) rfl (by decide) ?_
      refine r_aload_n dX10_told_118 rfl ?_
      refine m_get dX10_told_119 fl_RX10_47 rfl ?_
      refine r_iload_n dX10_told_122 rfl ?_
      refine m_iald (k := 16) (N := 24) hE (by decide) rfl rfl dX10_told_123 (by exact isBottle_in h0 (by with_reducible assumption)) ?_
      refine m_callS dX10_told_124 mf_X10_weightOf ml_RX10_215 (ok_X10_weightOf (d := d - 1) (by omega) _) rfl rfl (Nat.le_of_ble_eq_true rfl) (by omega) ?_
      refine r_iret dX10_told_127 rfl rfl ?_
      exact ⟨_, rfl, by rw [f_X10_told, if_neg c1, if_neg c2, if_neg c3, if_neg c4, if_neg c5, if_neg c6, if_neg c8, if_pos c9], Sm.rf _⟩
    by_cases c10 : p2 = (7 : Int32)
    · refine r_tabK (tgt := 128) dX10_told_12 c10 (by decide) (by decide) rfl (by decide) ?_
      refine r_aload_n dX10_told_128 rfl ?_
      refine r_iload_n dX10_told_129 rfl ?_
      refine m_callW dX10_told_130 mf_X10_ownerOf ml_RX10_218 (ok_X10_ownerOf (d := d - 1) hE (by omega) _ _ (by first | exact h0 | exact h1 | exact isBottle_in h0 (by with_reducible assumption))) rfl rfl rfl (Nat.le_of_ble_eq_true rfl) (by omega) ?_
      refine r_iret dX10_told_133 rfl rfl ?_
      exact ⟨_, rfl, by rw [f_X10_told, if_neg c1, if_neg c2, if_neg c3, if_neg c4, if_neg c5, if_neg c6, if_neg c8, if_neg c9, if_pos c10], Sm.rf _⟩
    by_cases c11 : p2 = (8 : Int32)
    · refine r_tabK (tgt := 134) dX10_told_12 c11 (by decide) (by decide) rfl (by decide) ?_
      refine r_aload_n dX10_told_134 rfl ?_
      refine r_iload_n dX10_told_135 rfl ?_
      refine m_call (As := [.int p1]) dX10_told_136 mf_X10_doubtOf ml_RX10_221 (mk_doubtOf (d := d - 1) hE (by omega) _ _ (by first | exact h0 | exact h1 | exact isBottle_in h0 (by with_reducible assumption)) (by first | exact h0 | exact h1 | exact isBottle_in h0 (by with_reducible assumption)) (by first | exact h0 | exact h1 | exact isBottle_in h0 (by with_reducible assumption))) rfl rfl rfl (Nat.le_of_ble_eq_true rfl) (by omega) (fun v s k => ?_)
      obtain ⟨rfl, hc⟩ := k
      obtain ⟨f1, w1, A1⟩ := s
      obtain ⟨hA, hj⟩ := hc
      have hA : A1 = σ.2.2 := hA
      subst hA
      refine r_iret dX10_told_139 rfl rfl ?_
      exact ⟨_, rfl, by rw [f_X10_told, if_neg c1, if_neg c2, if_neg c3, if_neg c4, if_neg c5, if_neg c6, if_neg c8, if_neg c9, if_neg c10, if_pos c11], ⟨rfl, hj⟩⟩
    by_cases c12 : p2 = (9 : Int32)
    · refine r_tabK (tgt := 140) dX10_told_12 c12 (by decide) (by decide) rfl (by decide) ?_
      refine r_aload_n dX10_told_140 rfl ?_
      refine r_iload_n dX10_told_141 rfl ?_
      refine m_call (As := [.int p1]) dX10_told_142 mf_X10_priceOf ml_RX10_224 (mk_priceOf (d := d - 1) hE (by omega) _ _ (by first | exact h0 | exact h1 | exact isBottle_in h0 (by with_reducible assumption)) (by first | exact h0 | exact h1 | exact isBottle_in h0 (by with_reducible assumption)) (by first | exact h0 | exact h1 | exact isBottle_in h0 (by with_reducible assumption))) rfl rfl rfl (Nat.le_of_ble_eq_true rfl) (by omega) (fun v s k => ?_)
      obtain ⟨rfl, hc⟩ := k
      obtain ⟨f1, w1, A1⟩ := s
      obtain ⟨hA, hj⟩ := hc
      have hA : A1 = σ.2.2 := hA
      subst hA
      refine r_iret dX10_told_145 rfl rfl ?_
      exact ⟨_, rfl, by rw [f_X10_told, if_neg c1, if_neg c2, if_neg c3, if_neg c4, if_neg c5, if_neg c6, if_neg c8, if_neg c9, if_neg c10, if_neg c11, if_pos c12], ⟨rfl, hj⟩⟩
    by_cases c13 : p2 = (10 : Int32)
    · refine r_tabK (tgt := 146) dX10_told_12 c13 (by decide) (by decide) rfl (by decide) ?_
      refine r_aload_n dX10_told_146 rfl ?_
      refine r_iload_n dX10_told_147 rfl ?_
      refine m_call (As := [.int p1]) dX10_told_148 mf_X10_openOf ml_RX10_227 (mk_openOf (d := d - 1) hE (by omega) _ _ (by first | exact h0 | exact h1 | exact isBottle_in h0 (by with_reducible assumption)) (by first | exact h0 | exact h1 | exact isBottle_in h0 (by with_reducible assumption)) (by first | exact h0 | exact h1 | exact isBottle_in h0 (by with_reducible assumption))) rfl rfl rfl (Nat.le_of_ble_eq_true rfl) (by omega) (fun v s k => ?_)
      obtain ⟨rfl, hc⟩ := k
      obtain ⟨f1, w1, A1⟩ := s
      obtain ⟨hA, hj⟩ := hc
      have hA : A1 = σ.2.2 := hA
      subst hA
      refine r_iret dX10_told_151 rfl rfl ?_
      exact ⟨_, rfl, by rw [f_X10_told, if_neg c1, if_neg c2, if_neg c3, if_neg c4, if_neg c5, if_neg c6, if_neg c8, if_neg c9, if_neg c10, if_neg c11, if_neg c12, if_pos c13], ⟨rfl, hj⟩⟩
    refine r_tabOut (tgt := 152) dX10_told_12 (by have e0 : (p2).toInt ≠ 0 := ne_toInt c2; have e1 : (p2).toInt ≠ 1 := ne_toInt c3; have e2 : (p2).toInt ≠ 2 := ne_toInt c4; have e3 : (p2).toInt ≠ 3 := ne_toInt c5; have e4 : (p2).toInt ≠ 4 := ne_toInt c6; have e5 : (p2).toInt ≠ 5 := ne_toInt c8; have e6 : (p2).toInt ≠ 6 := ne_toInt c9; have e7 : (p2).toInt ≠ 7 := ne_toInt c10; have e8 : (p2).toInt ≠ 8 := ne_toInt c11; have e9 : (p2).toInt ≠ 9 := ne_toInt c12; have e10 : (p2).toInt ≠ 10 := ne_toInt c13; omega) (by decide) ?_
    refine r_bipush (v := (-5 : Int32)) dX10_told_152 (by decide) ?_
    refine r_iret dX10_told_154 rfl rfl ?_
    exact ⟨_, rfl, by rw [f_X10_told, if_neg c1, if_neg c2, if_neg c3, if_neg c4, if_neg c5, if_neg c6, if_neg c8, if_neg c9, if_neg c10, if_neg c11, if_neg c12, if_neg c13], Sm.rf _⟩
  · refine r_bipush (v := (-5 : Int32)) dX10_told_8 (by decide) ?_
    refine r_iret dX10_told_10 rfl rfl ?_
    exact ⟨_, rfl, by rw [f_X10_told, if_pos c1], Sm.rf _⟩
