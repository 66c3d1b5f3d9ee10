theorem bk_in {p w : Int32} (c1 : ¬ f_X10_in (Int32.toInt64 p) 0 2 = 0) (c2 : ¬ f_X10_in (Int32.toInt64 w) 0 3 = 0) : vp_in (4 * p + w) 12 := by
  obtain ⟨a, ha, rfl⟩ := vp_in_of (in_k (a' := 0) (b' := 2) (N := 3) rfl rfl rfl (by decide) rfl c1) (by decide)
  obtain ⟨b, hb, rfl⟩ := vp_in_of (in_k (a' := 0) (b' := 3) (N := 4) rfl rfl rfl (by decide) rfl c2) (by decide)
  rw [show (4 : Int32) * nI a = nI (4 * a) from pk_mul 4 a, nI_add]
  exact vp_in_nI (by omega) (by decide)
theorem in3 {x : Int32} (c : ¬ f_X10_in (Int32.toInt64 x) 0 2 = 0) : vp_in x 3 := in_k (a' := 0) (b' := 2) rfl rfl rfl (by decide) rfl c
theorem said_in {σ : MSt} (h : MInv σ) {t : Int32} (ht : vp_in t 6) (c : ¬ σ.2.2 42 (Int32.toNatClampNeg t) = 12) : vp_in (12 * t + σ.2.2 42 (Int32.toNatClampNeg t)) 72 := by
  obtain ⟨j, hj, rfl⟩ := vp_in_of ht (by decide)
  obtain ⟨k, hk, e⟩ := h.given (Int32.toNatClampNeg (nI j))
  have e1 : (12 : Int32) * nI j = nI (12 * j) := pk_mul 12 j
  rw [e] at c ⊢
  rw [e1, nI_add]
  have : k ≠ 12 := fun z => c (by rw [z]; rfl)
  exact vp_in_nI (by omega) (by decide)
theorem isSheet_in {x : Int32} (c : ¬ f_X10_isSheet x = 0) : vp_in x 4 := in_k (a' := 0) (b' := 3) rfl rfl rfl (by decide) rfl c
theorem sx_in {s i : Int32} (hs : vp_in s 4) (hi : vp_in i 40) : vp_in (40 * s + i) 160 := by
  obtain ⟨a, ha, rfl⟩ := vp_in_of hs (by decide)
  obtain ⟨b, hb, rfl⟩ := vp_in_of hi (by decide)
  rw [show (40 : Int32) * nI a = nI (40 * a) from pk_mul 40 a, nI_add]
  exact vp_in_nI (by omega) (by decide)
theorem cell_in {σ : MSt} (h : MInv σ) {s i : Int32} (hs : vp_in s 4) (cz : ¬ σ.2.2 56 (Int32.toNatClampNeg s) = 0) (ci : ¬ f_X10_in (Int32.toInt64 i) 0 (Int32.toInt64 (σ.2.2 58 (Int32.toNatClampNeg s) - 1)) = 0) : vp_in (40 * s + i) 160 := by
  rcases h.sz (Int32.toNatClampNeg s) with q | q
  · exact absurd q cz
  · exact sx_in hs (in_ct' (by decide) q ci)
theorem ct_rg {x : Int32} (h0 : 0 ≤ x) (h1 : x ≤ 40) : Ct x 40 := by
  obtain ⟨j, hj, e⟩ := nI_of_rg (N := 40) (by decide) h0 h1
  exact ⟨j, hj, e⟩
def FInv (t m i : Int32) : Prop := ∃ a b k : Nat, t = nI a ∧ m = nI k ∧ i = nI b ∧ b ≤ k ∧ k ≤ 8 ∧ a + (k - b) ≤ 160
theorem FInv.step {t m i : Int32} (h : FInv t m i) (c : ¬ m ≤ i) : vp_in t 160 ∧ FInv (t + 1) m (i + 1) ∧ 9 - (i + 1).toNatClampNeg < 9 - i.toNatClampNeg := by
  obtain ⟨a, b, k, rfl, rfl, rfl, h1, h2, h3⟩ := h
  have : ¬ k ≤ b := fun q => c (nI_le q (by omega))
  refine ⟨vp_in_nI (by omega) (by decide), ⟨a + 1, b + 1, k, nI_1 a, rfl, nI_1 b, by omega, by omega, by omega⟩, ?_⟩
  rw [nI_1, nI_clamp (by omega), nI_clamp (by omega)]
  omega
theorem FInv.first {σ : MSt} (h : MInv σ) {m : Int32} (c1 : ¬ f_X10_in (Int32.toInt64 m) 1 8 = 0) (c2 : σ.1 6 + m ≤ 160) : FInv (σ.1 6) m 0 := by
  obtain ⟨a, ha, e⟩ := h.np
  rw [e] at c2 ⊢
  rw [f_in_k m 1 8 1 8 rfl rfl] at c1
  by_cases q : (1 : Int32) ≤ m ∧ m ≤ 8
  · have h0 : (0 : Int32) ≤ m := Int32.le_trans (by decide) q.1
    obtain ⟨k, hk, rfl⟩ := nI_of_rg (N := 8) (by decide) h0 q.2
    rw [nI_add] at c2
    have : a + k ≤ 160 := (nI_leI (b := 160) (by omega) (by decide)).mp c2
    exact ⟨a, 0, k, rfl, rfl, rfl, by omega, hk, by omega⟩
  · rw [if_neg q] at c1; exact absurd rfl c1

def f_X10_wine (σ : MSt) (p1 : Int32) (p2 : Int32) (p3 : Int32) (p4 : Int32) : Int32 × MSt := (if (f_X10_in (Int32.toInt64 p1) (0 : Int64) (99 : Int64)) = 0 then ((-2 : Int32), σ) else (if (f_X10_in (Int32.toInt64 p2) (0 : Int64) (999 : Int64)) = 0 then ((-2 : Int32), σ) else (if (f_X10_areParts p3) = 0 then ((-2 : Int32), σ) else (if (f_X10_in (Int32.toInt64 p4) (0 : Int64) (999999 : Int64)) = 0 then ((-2 : Int32), σ) else (if (σ.1 12) = (8 : Int32) then ((-4 : Int32), σ) else ((((mp (ma (ma (ma (ma (ma σ 7 (Int32.toNatClampNeg (σ.1 12)) p1) 8 (Int32.toNatClampNeg ((ma σ 7 (Int32.toNatClampNeg (σ.1 12)) p1).1 12)) p2) 9 (Int32.toNatClampNeg ((ma (ma σ 7 (Int32.toNatClampNeg (σ.1 12)) p1) 8 (Int32.toNatClampNeg ((ma σ 7 (Int32.toNatClampNeg (σ.1 12)) p1).1 12)) p2).1 12)) (0 : Int32)) 10 (Int32.toNatClampNeg ((ma (ma (ma σ 7 (Int32.toNatClampNeg (σ.1 12)) p1) 8 (Int32.toNatClampNeg ((ma σ 7 (Int32.toNatClampNeg (σ.1 12)) p1).1 12)) p2) 9 (Int32.toNatClampNeg ((ma (ma σ 7 (Int32.toNatClampNeg (σ.1 12)) p1) 8 (Int32.toNatClampNeg ((ma σ 7 (Int32.toNatClampNeg (σ.1 12)) p1).1 12)) p2).1 12)) (0 : Int32)).1 12)) p3) 11 (Int32.toNatClampNeg ((ma (ma (ma (ma σ 7 (Int32.toNatClampNeg (σ.1 12)) p1) 8 (Int32.toNatClampNeg ((ma σ 7 (Int32.toNatClampNeg (σ.1 12)) p1).1 12)) p2) 9 (Int32.toNatClampNeg ((ma (ma σ 7 (Int32.toNatClampNeg (σ.1 12)) p1) 8 (Int32.toNatClampNeg ((ma σ 7 (Int32.toNatClampNeg (σ.1 12)) p1).1 12)) p2).1 12)) (0 : Int32)) 10 (Int32.toNatClampNeg ((ma (ma (ma σ 7 (Int32.toNatClampNeg (σ.1 12)) p1) 8 (Int32.toNatClampNeg ((ma σ 7 (Int32.toNatClampNeg (σ.1 12)) p1).1 12)) p2) 9 (Int32.toNatClampNeg ((ma (ma σ 7 (Int32.toNatClampNeg (σ.1 12)) p1) 8 (Int32.toNatClampNeg ((ma σ 7 (Int32.toNatClampNeg (σ.1 12)) p1).1 12)) p2).1 12)) (0 : Int32)).1 12)) p3).1 12)) p4) 12 (((ma (ma (ma (ma (ma σ 7 (Int32.toNatClampNeg (σ.1 12)) p1) 8 (Int32.toNatClampNeg ((ma σ 7 (Int32.toNatClampNeg (σ.1 12)) p1).1 12)) p2) 9 (Int32.toNatClampNeg ((ma (ma σ 7 (Int32.toNatClampNeg (σ.1 12)) p1) 8 (Int32.toNatClampNeg ((ma σ 7 (Int32.toNatClampNeg (σ.1 12)) p1).1 12)) p2).1 12)) (0 : Int32)) 10 (Int32.toNatClampNeg ((ma (ma (ma σ 7 (Int32.toNatClampNeg (σ.1 12)) p1) 8 (Int32.toNatClampNeg ((ma σ 7 (Int32.toNatClampNeg (σ.1 12)) p1).1 12)) p2) 9 (Int32.toNatClampNeg ((ma (ma σ 7 (Int32.toNatClampNeg (σ.1 12)) p1) 8 (Int32.toNatClampNeg ((ma σ 7 (Int32.toNatClampNeg (σ.1 12)) p1).1 12)) p2).1 12)) (0 : Int32)).1 12)) p3) 11 (Int32.toNatClampNeg ((ma (ma (ma (ma σ 7 (Int32.toNatClampNeg (σ.1 12)) p1) 8 (Int32.toNatClampNeg ((ma σ 7 (Int32.toNatClampNeg (σ.1 12)) p1).1 12)) p2) 9 (Int32.toNatClampNeg ((ma (ma σ 7 (Int32.toNatClampNeg (σ.1 12)) p1) 8 (Int32.toNatClampNeg ((ma σ 7 (Int32.toNatClampNeg (σ.1 12)) p1).1 12)) p2).1 12)) (0 : Int32)) 10 (Int32.toNatClampNeg ((ma (ma (ma σ 7 (Int32.toNatClampNeg (σ.1 12)) p1) 8 (Int32.toNatClampNeg ((ma σ 7 (Int32.toNatClampNeg (σ.1 12)) p1).1 12)) p2) 9 (Int32.toNatClampNeg ((ma (ma σ 7 (Int32.toNatClampNeg (σ.1 12)) p1) 8 (Int32.toNatClampNeg ((ma σ 7 (Int32.toNatClampNeg (σ.1 12)) p1).1 12)) p2).1 12)) (0 : Int32)).1 12)) p3).1 12)) p4).1 12) + (1 : Int32))).1 12) - (1 : Int32)), (mp (ma (ma (ma (ma (ma σ 7 (Int32.toNatClampNeg (σ.1 12)) p1) 8 (Int32.toNatClampNeg ((ma σ 7 (Int32.toNatClampNeg (σ.1 12)) p1).1 12)) p2) 9 (Int32.toNatClampNeg ((ma (ma σ 7 (Int32.toNatClampNeg (σ.1 12)) p1) 8 (Int32.toNatClampNeg ((ma σ 7 (Int32.toNatClampNeg (σ.1 12)) p1).1 12)) p2).1 12)) (0 : Int32)) 10 (Int32.toNatClampNeg ((ma (ma (ma σ 7 (Int32.toNatClampNeg (σ.1 12)) p1) 8 (Int32.toNatClampNeg ((ma σ 7 (Int32.toNatClampNeg (σ.1 12)) p1).1 12)) p2) 9 (Int32.toNatClampNeg ((ma (ma σ 7 (Int32.toNatClampNeg (σ.1 12)) p1) 8 (Int32.toNatClampNeg ((ma σ 7 (Int32.toNatClampNeg (σ.1 12)) p1).1 12)) p2).1 12)) (0 : Int32)).1 12)) p3) 11 (Int32.toNatClampNeg ((ma (ma (ma (ma σ 7 (Int32.toNatClampNeg (σ.1 12)) p1) 8 (Int32.toNatClampNeg ((ma σ 7 (Int32.toNatClampNeg (σ.1 12)) p1).1 12)) p2) 9 (Int32.toNatClampNeg ((ma (ma σ 7 (Int32.toNatClampNeg (σ.1 12)) p1) 8 (Int32.toNatClampNeg ((ma σ 7 (Int32.toNatClampNeg (σ.1 12)) p1).1 12)) p2).1 12)) (0 : Int32)) 10 (Int32.toNatClampNeg ((ma (ma (ma σ 7 (Int32.toNatClampNeg (σ.1 12)) p1) 8 (Int32.toNatClampNeg ((ma σ 7 (Int32.toNatClampNeg (σ.1 12)) p1).1 12)) p2) 9 (Int32.toNatClampNeg ((ma (ma σ 7 (Int32.toNatClampNeg (σ.1 12)) p1) 8 (Int32.toNatClampNeg ((ma σ 7 (Int32.toNatClampNeg (σ.1 12)) p1).1 12)) p2).1 12)) (0 : Int32)).1 12)) p3).1 12)) p4) 12 (((ma (ma (ma (ma (ma σ 7 (Int32.toNatClampNeg (σ.1 12)) p1) 8 (Int32.toNatClampNeg ((ma σ 7 (Int32.toNatClampNeg (σ.1 12)) p1).1 12)) p2) 9 (Int32.toNatClampNeg ((ma (ma σ 7 (Int32.toNatClampNeg (σ.1 12)) p1) 8 (Int32.toNatClampNeg ((ma σ 7 (Int32.toNatClampNeg (σ.1 12)) p1).1 12)) p2).1 12)) (0 : Int32)) 10 (Int32.toNatClampNeg ((ma (ma (ma σ 7 (Int32.toNatClampNeg (σ.1 12)) p1) 8 (Int32.toNatClampNeg ((ma σ 7 (Int32.toNatClampNeg (σ.1 12)) p1).1 12)) p2) 9 (Int32.toNatClampNeg ((ma (ma σ 7 (Int32.toNatClampNeg (σ.1 12)) p1) 8 (Int32.toNatClampNeg ((ma σ 7 (Int32.toNatClampNeg (σ.1 12)) p1).1 12)) p2).1 12)) (0 : Int32)).1 12)) p3) 11 (Int32.toNatClampNeg ((ma (ma (ma (ma σ 7 (Int32.toNatClampNeg (σ.1 12)) p1) 8 (Int32.toNatClampNeg ((ma σ 7 (Int32.toNatClampNeg (σ.1 12)) p1).1 12)) p2) 9 (Int32.toNatClampNeg ((ma (ma σ 7 (Int32.toNatClampNeg (σ.1 12)) p1) 8 (Int32.toNatClampNeg ((ma σ 7 (Int32.toNatClampNeg (σ.1 12)) p1).1 12)) p2).1 12)) (0 : Int32)) 10 (Int32.toNatClampNeg ((ma (ma (ma σ 7 (Int32.toNatClampNeg (σ.1 12)) p1) 8 (Int32.toNatClampNeg ((ma σ 7 (Int32.toNatClampNeg (σ.1 12)) p1).1 12)) p2) 9 (Int32.toNatClampNeg ((ma (ma σ 7 (Int32.toNatClampNeg (σ.1 12)) p1) 8 (Int32.toNatClampNeg ((ma σ 7 (Int32.toNatClampNeg (σ.1 12)) p1).1 12)) p2).1 12)) (0 : Int32)).1 12)) p3).1 12)) p4).1 12) + (1 : Int32)))))))))
set_option maxRecDepth 100000 in
set_option maxHeartbeats 1000000 in
theorem ok_X10_wine {g : GC} {E : ME} {d : Nat} (hE : MEok E) (hd : 2 ≤ d) (σ : MSt) (p1 : Int32) (p2 : Int32) (p3 : Int32) (p4 : Int32) (h0 : MInv σ) : MC g E d yX10_wine cX10_wine 5 (some FieldType.int) [.int p1, .int p2, .int p3, .int p4] (fun v σ' => v = some (.int (f_X10_wine σ p1 p2 p3 p4).1) ∧ σ' = (f_X10_wine σ p1 p2 p3 p4).2) σ := by
  refine AM.of2 (own := RX10) (nm := "wine") (L0 := [(0, .ref E.2.2), (1, .int p1), (2, .int p2), (3, .int p3), (4, .int p4)]) (by decide) rfl rfl (Nat.le_of_ble_eq_true rfl) rfl ?_
  refine r_iload_n dX10_wine_0 rfl ?_
  refine r_i2l dX10_wine_1 ?_
  refine r_lconst (v := (0 : Int64)) dX10_wine_2 (by decide) ?_
  refine r_ldc2 dX10_wine_3 kc_RX10_155 ?_
  refine m_callS dX10_wine_6 mf_X10_in ml_RX10_149 (ok_X10_in (d := d - 1) (by omega) _ _ _) rfl rfl (Nat.le_of_ble_eq_true rfl) (by omega) ?_
  refine r_if_eq (tgt := 44) dX10_wine_9 (by decide) (fun c1 => ?_) (fun c1 => ?_)
  · refine r_bipush (v := (-2 : Int32)) dX10_wine_44 (by decide) ?_
    refine r_iret dX10_wine_46 rfl rfl ?_
    exact ⟨_, rfl, by rw [f_X10_wine, if_pos c1], by rw [f_X10_wine, if_pos c1]⟩
  · refine r_iload_n dX10_wine_12 rfl ?_
    refine r_i2l dX10_wine_13 ?_
    refine r_lconst (v := (0 : Int64)) dX10_wine_14 (by decide) ?_
    refine r_ldc2 dX10_wine_15 kc_RX10_157 ?_
    refine m_callS dX10_wine_18 mf_X10_in ml_RX10_149 (ok_X10_in (d := d - 1) (by omega) _ _ _) rfl rfl (Nat.le_of_ble_eq_true rfl) (by omega) ?_
    refine r_if_eq (tgt := 44) dX10_wine_21 (by decide) (fun c2 => ?_) (fun c2 => ?_)
    · refine r_bipush (v := (-2 : Int32)) dX10_wine_44 (by decide) ?_
      refine r_iret dX10_wine_46 rfl rfl ?_
      exact ⟨_, rfl, by rw [f_X10_wine, if_neg c1, if_pos c2], by rw [f_X10_wine, if_neg c1, if_pos c2]⟩
    · refine r_iload_n dX10_wine_24 rfl ?_
      refine m_callS dX10_wine_25 mf_X10_areParts ml_RX10_159 (ok_X10_areParts (d := d - 1) (by omega) _) rfl rfl (Nat.le_of_ble_eq_true rfl) (by omega) ?_
      refine r_if_eq (tgt := 44) dX10_wine_28 (by decide) (fun c3 => ?_) (fun c3 => ?_)
      · refine r_bipush (v := (-2 : Int32)) dX10_wine_44 (by decide) ?_
        refine r_iret dX10_wine_46 rfl rfl ?_
        exact ⟨_, rfl, by rw [f_X10_wine, if_neg c1, if_neg c2, if_pos c3], by rw [f_X10_wine, if_neg c1, if_neg c2, if_pos c3]⟩
      · refine r_iload dX10_wine_31 rfl ?_
        refine r_i2l dX10_wine_33 ?_
        refine r_lconst (v := (0 : Int64)) dX10_wine_34 (by decide) ?_
        refine r_ldc2 dX10_wine_35 kc_RX10_163 ?_
        refine m_callS dX10_wine_38 mf_X10_in ml_RX10_149 (ok_X10_in (d := d - 1) (by omega) _ _ _) rfl rfl (Nat.le_of_ble_eq_true rfl) (by omega) ?_
        refine r_if_ne (tgt := 47) dX10_wine_41 (by decide) (fun c4 => ?_) (fun c4 => ?_)
        · refine r_aload_n dX10_wine_47 rfl ?_
          refine m_get dX10_wine_48 fl_RX10_146 rfl ?_
          refine r_bipush (v := (8 : Int32)) dX10_wine_51 (by decide) ?_
          refine r_icmp_ne (tgt := 59) dX10_wine_53 (by decide) (fun c5 => ?_) (fun c5 => ?_)
          · refine r_aload_n dX10_wine_59 rfl ?_
            refine m_get dX10_wine_60 fl_RX10_23 rfl ?_
            refine r_aload_n dX10_wine_63 rfl ?_
            refine m_get dX10_wine_64 fl_RX10_146 rfl ?_
            refine r_iload_n dX10_wine_67 rfl ?_
            refine m_iast (k := 7) (N := 8) hE (by decide) rfl rfl dX10_wine_68 (by exact ne_ct (by decide) h0.nw (by with_reducible assumption : ¬ σ.1 12 = 8)) ?_
            refine r_aload_n dX10_wine_69 rfl ?_
            refine m_get dX10_wine_70 fl_RX10_26 rfl ?_
            refine r_aload_n dX10_wine_73 rfl ?_
            refine m_get dX10_wine_74 fl_RX10_146 rfl ?_
            refine r_iload_n dX10_wine_77 rfl ?_
            refine m_iast (k := 8) (N := 8) hE (by decide) rfl rfl dX10_wine_78 (by exact ne_ct (by decide) h0.nw (by with_reducible assumption : ¬ σ.1 12 = 8)) ?_
            refine r_aload_n dX10_wine_79 rfl ?_
            refine m_get dX10_wine_80 fl_RX10_29 rfl ?_
            refine r_aload_n dX10_wine_83 rfl ?_
            refine m_get dX10_wine_84 fl_RX10_146 rfl ?_
            refine r_iconst (v := (0 : Int32)) dX10_wine_87 (by decide) ?_
            refine m_iast (k := 9) (N := 8) hE (by decide) rfl rfl dX10_wine_88 (by exact ne_ct (by decide) h0.nw (by with_reducible assumption : ¬ σ.1 12 = 8)) ?_
            refine r_aload_n dX10_wine_89 rfl ?_
            refine m_get dX10_wine_90 fl_RX10_32 rfl ?_
            refine r_aload_n dX10_wine_93 rfl ?_
            refine m_get dX10_wine_94 fl_RX10_146 rfl ?_
            refine r_iload_n dX10_wine_97 rfl ?_
            refine m_iast (k := 10) (N := 8) hE (by decide) rfl rfl dX10_wine_98 (by exact ne_ct (by decide) h0.nw (by with_reducible assumption : ¬ σ.1 12 = 8)) ?_
            refine r_aload_n dX10_wine_99 rfl ?_
            refine m_get dX10_wine_100 fl_RX10_35 rfl ?_
            refine r_aload_n dX10_wine_103 rfl ?_
            refine m_get dX10_wine_104 fl_RX10_146 rfl ?_
            refine r_iload dX10_wine_107 rfl ?_
            refine m_iast (k := 11) (N := 8) hE (by decide) rfl rfl dX10_wine_109 (by exact ne_ct (by decide) h0.nw (by with_reducible assumption : ¬ σ.1 12 = 8)) ?_
            refine r_aload_n dX10_wine_110 rfl ?_
            refine r_dup dX10_wine_111 rfl ?_
            refine m_get dX10_wine_112 fl_RX10_146 rfl ?_
            refine r_iconst (v := (1 : Int32)) dX10_wine_115 (by decide) ?_
            refine r_iadd dX10_wine_116 ?_
            refine m_put hE dX10_wine_117 fp_RX10_146 rfl rfl rfl (by decide) ?_
            refine r_aload_n dX10_wine_120 rfl ?_
            refine m_get dX10_wine_121 fl_RX10_146 rfl ?_
            refine r_iconst (v := (1 : Int32)) dX10_wine_124 (by decide) ?_
            refine r_isub dX10_wine_125 ?_
            refine r_iret dX10_wine_126 rfl rfl ?_
            exact ⟨_, rfl, by rw [f_X10_wine, if_neg c1, if_neg c2, if_neg c3, if_neg c4, if_neg c5], by rw [f_X10_wine, if_neg c1, if_neg c2, if_neg c3, if_neg c4, if_neg c5]⟩
          · refine r_bipush (v := (-4 : Int32)) dX10_wine_56 (by decide) ?_
            refine r_iret dX10_wine_58 rfl rfl ?_
            exact ⟨_, rfl, by rw [f_X10_wine, if_neg c1, if_neg c2, if_neg c3, if_neg c4, if_pos c5], by rw [f_X10_wine, if_neg c1, if_neg c2, if_neg c3, if_neg c4, if_pos c5]⟩
        · refine r_bipush (v := (-2 : Int32)) dX10_wine_44 (by decide) ?_
          refine r_iret dX10_wine_46 rfl rfl ?_
          exact ⟨_, rfl, by rw [f_X10_wine, if_neg c1, if_neg c2, if_neg c3, if_pos c4], by rw [f_X10_wine, if_neg c1, if_neg c2, if_neg c3, if_pos c4]⟩

def f_X10_drunk (σ : MSt) (p1 : Int32) (p2 : Int32) : Int32 × MSt := (if (f_X10_isWine σ p1) = 0 then ((-2 : Int32), σ) else (if (f_X10_in (Int32.toInt64 p2) (0 : Int64) (999 : Int64)) = 0 then ((-2 : Int32), σ) else ((σ.2.2 9 (Int32.toNatClampNeg p1)), (ma σ 9 (Int32.toNatClampNeg p1) p2))))
set_option maxRecDepth 100000 in
set_option maxHeartbeats 1000000 in
theorem ok_X10_drunk {g : GC} {E : ME} {d : Nat} (hE : MEok E) (hd : 2 ≤ d) (σ : MSt) (p1 : Int32) (p2 : Int32) (h0 : MInv σ) : MC g E d yX10_drunk cX10_drunk 4 (some FieldType.int) [.int p1, .int p2] (fun v σ' => v = some (.int (f_X10_drunk σ p1 p2).1) ∧ σ' = (f_X10_drunk σ p1 p2).2) σ := by
  refine AM.of2 (own := RX10) (nm := "drunk") (L0 := [(0, .ref E.2.2), (1, .int p1), (2, .int p2)]) (by decide) rfl rfl (Nat.le_of_ble_eq_true rfl) rfl ?_
  refine r_aload_n dX10_drunk_0 rfl ?_
  refine r_iload_n dX10_drunk_1 rfl ?_
  refine m_callW dX10_drunk_2 mf_X10_isWine ml_RX10_165 (ok_X10_isWine (d := d - 1) hE (by omega) _ _) rfl rfl rfl (Nat.le_of_ble_eq_true rfl) (by omega) ?_
  refine r_if_eq (tgt := 20) dX10_drunk_5 (by decide) (fun c1 => ?_) (fun c1 => ?_)
  · refine r_bipush (v := (-2 : Int32)) dX10_drunk_20 (by decide) ?_
    refine r_iret dX10_drunk_22 rfl rfl ?_
    exact ⟨_, rfl, by rw [f_X10_drunk, if_pos c1], by rw [f_X10_drunk, if_pos c1]⟩
  · refine r_iload_n dX10_drunk_8 rfl ?_
    refine r_i2l dX10_drunk_9 ?_
    refine r_lconst (v := (0 : Int64)) dX10_drunk_10 (by decide) ?_
    refine r_ldc2 dX10_drunk_11 kc_RX10_157 ?_
    refine m_callS dX10_drunk_14 mf_X10_in ml_RX10_149 (ok_X10_in (d := d - 1) (by omega) _ _ _) rfl rfl (Nat.le_of_ble_eq_true rfl) (by omega) ?_
    refine r_if_ne (tgt := 23) dX10_drunk_17 (by decide) (fun c2 => ?_) (fun c2 => ?_)
    · refine r_aload_n dX10_drunk_23 rfl ?_
      refine m_get dX10_drunk_24 fl_RX10_29 rfl ?_
      refine r_iload_n dX10_drunk_27 rfl ?_
      refine m_iald (k := 9) (N := 8) hE (by decide) rfl rfl dX10_drunk_28 (by with_reducible exact isWine_in h0 (by assumption)) ?_
      refine r_istore_n dX10_drunk_29 (by decide) ?_
      refine r_aload_n dX10_drunk_30 rfl ?_
      refine m_get dX10_drunk_31 fl_RX10_29 rfl ?_
      refine r_iload_n dX10_drunk_34 rfl ?_
      refine r_iload_n dX10_drunk_35 rfl ?_
      refine m_iast (k := 9) (N := 8) hE (by decide) rfl rfl dX10_drunk_36 (by with_reducible exact isWine_in h0 (by assumption)) ?_
      refine r_iload_n dX10_drunk_37 rfl ?_
      refine r_iret dX10_drunk_38 rfl rfl ?_
      exact ⟨_, rfl, by rw [f_X10_drunk, if_neg c1, if_neg c2], by rw [f_X10_drunk, if_neg c1, if_neg c2]⟩
    · refine r_bipush (v := (-2 : Int32)) dX10_drunk_20 (by decide) ?_
      refine r_iret dX10_drunk_22 rfl rfl ?_
      exact ⟨_, rfl, by rw [f_X10_drunk, if_neg c1, if_pos c2], by rw [f_X10_drunk, if_neg c1, if_pos c2]⟩

def f_X10_book (σ : MSt) (p1 : Int32) (p2 : Int32) (p3 : Int32) (p4 : Int32) : Int32 × MSt := (if (f_X10_in (Int32.toInt64 p1) (0 : Int64) (2 : Int64)) = 0 then ((-2 : Int32), σ) else (if (f_X10_in (Int32.toInt64 p2) (0 : Int64) (3 : Int64)) = 0 then ((-2 : Int32), σ) else (if (f_X10_in (Int32.toInt64 p3) (0 : Int64) (99 : Int64)) = 0 then ((-2 : Int32), σ) else (if (f_X10_in (Int32.toInt64 p4) (Int32.toInt64 p3) (99 : Int64)) = 0 then ((-2 : Int32), σ) else ((1 : Int32), (ma (ma σ 13 (Int32.toNatClampNeg (((4 : Int32) * p1) + p2)) p3) 14 (Int32.toNatClampNeg (((4 : Int32) * p1) + p2)) p4))))))
set_option maxRecDepth 100000 in
set_option maxHeartbeats 1000000 in
theorem ok_X10_book {g : GC} {E : ME} {d : Nat} (hE : MEok E) (hd : 1 ≤ d) (σ : MSt) (p1 : Int32) (p2 : Int32) (p3 : Int32) (p4 : Int32) (h0 : MInv σ) : MC g E d yX10_book cX10_book 5 (some FieldType.int) [.int p1, .int p2, .int p3, .int p4] (fun v σ' => v = some (.int (f_X10_book σ p1 p2 p3 p4).1) ∧ σ' = (f_X10_book σ p1 p2 p3 p4).2) σ := by
  refine AM.of2 (own := RX10) (nm := "book") (L0 := [(0, .ref E.2.2), (1, .int p1), (2, .int p2), (3, .int p3), (4, .int p4)]) (by decide) rfl rfl (Nat.le_of_ble_eq_true rfl) rfl ?_
  refine r_iload_n dX10_book_0 rfl ?_
  refine r_i2l dX10_book_1 ?_
  refine r_lconst (v := (0 : Int64)) dX10_book_2 (by decide) ?_
  refine r_ldc2 dX10_book_3 kc_RX10_168 ?_
  refine m_callS dX10_book_6 mf_X10_in ml_RX10_149 (ok_X10_in (d := d - 1) (by omega) _ _ _) rfl rfl (Nat.le_of_ble_eq_true rfl) (by omega) ?_
  refine r_if_eq (tgt := 50) dX10_book_9 (by decide) (fun c1 => ?_) (fun c1 => ?_)
  · refine r_bipush (v := (-2 : Int32)) dX10_book_50 (by decide) ?_
    refine r_iret dX10_book_52 rfl rfl ?_
    exact ⟨_, rfl, by rw [f_X10_book, if_pos c1], by rw [f_X10_book, if_pos c1]⟩
  · refine r_iload_n dX10_book_12 rfl ?_
    refine r_i2l dX10_book_13 ?_
    refine r_lconst (v := (0 : Int64)) dX10_book_14 (by decide) ?_
    refine r_ldc2 dX10_book_15 kc_RX10_170 ?_
    refine m_callS dX10_book_18 mf_X10_in ml_RX10_149 (ok_X10_in (d := d - 1) (by omega) _ _ _) rfl rfl (Nat.le_of_ble_eq_true rfl) (by omega) ?_
    refine r_if_eq (tgt := 50) dX10_book_21 (by decide) (fun c2 => ?_) (fun c2 => ?_)
    · refine r_bipush (v := (-2 : Int32)) dX10_book_50 (by decide) ?_
      refine r_iret dX10_book_52 rfl rfl ?_
      exact ⟨_, rfl, by rw [f_X10_book, if_neg c1, if_pos c2], by rw [f_X10_book, if_neg c1, if_pos c2]⟩
    · refine r_iload_n dX10_book_24 rfl ?_
      refine r_i2l dX10_book_25 ?_
      refine r_lconst (v := (0 : Int64)) dX10_book_26 (by decide) ?_
      refine r_ldc2 dX10_book_27 kc_RX10_155 ?_
      refine m_callS dX10_book_30 mf_X10_in ml_RX10_149 (ok_X10_in (d := d - 1) (by omega) _ _ _) rfl rfl (Nat.le_of_ble_eq_true rfl) (by omega) ?_
      refine r_if_eq (tgt := 50) dX10_book_33 (by decide) (fun c3 => ?_) (fun c3 => ?_)
      · refine r_bipush (v := (-2 : Int32)) dX10_book_50 (by decide) ?_
        refine r_iret dX10_book_52 rfl rfl ?_
        exact ⟨_, rfl, by rw [f_X10_book, if_neg c1, if_neg c2, if_pos c3], by rw [f_X10_book, if_neg c1, if_neg c2, if_pos c3]⟩
      · refine r_iload dX10_book_36 rfl ?_
        refine r_i2l dX10_book_38 ?_
        refine r_iload_n dX10_book_39 rfl ?_
        refine r_i2l dX10_book_40 ?_
        refine r_ldc2 dX10_book_41 kc_RX10_155 ?_
        refine m_callS dX10_book_44 mf_X10_in ml_RX10_149 (ok_X10_in (d := d - 1) (by omega) _ _ _) rfl rfl (Nat.le_of_ble_eq_true rfl) (by omega) ?_
        refine r_if_ne (tgt := 53) dX10_book_47 (by decide) (fun c4 => ?_) (fun c4 => ?_)
        · refine r_aload_n dX10_book_53 rfl ?_
          refine m_get dX10_book_54 fl_RX10_38 rfl ?_
          refine r_iconst (v := (4 : Int32)) dX10_book_57 (by decide) ?_
          refine r_iload_n dX10_book_58 rfl ?_
          refine r_imul dX10_book_59 ?_
          refine r_iload_n dX10_book_60 rfl ?_
          refine r_iadd dX10_book_61 ?_
          refine r_iload_n dX10_book_62 rfl ?_
          refine m_iast (k := 13) (N := 12) hE (by decide) rfl rfl dX10_book_63 (by with_reducible exact bk_in (by assumption) (by assumption)) ?_
          refine r_aload_n dX10_book_64 rfl ?_
          refine m_get dX10_book_65 fl_RX10_41 rfl ?_
          refine r_iconst (v := (4 : Int32)) dX10_book_68 (by decide) ?_
          refine r_iload_n dX10_book_69 rfl ?_
          refine r_imul dX10_book_70 ?_
          refine r_iload_n dX10_book_71 rfl ?_
          refine r_iadd dX10_book_72 ?_
          refine r_iload dX10_book_73 rfl ?_
          refine m_iast (k := 14) (N := 12) hE (by decide) rfl rfl dX10_book_75 (by with_reducible exact bk_in (by assumption) (by assumption)) ?_
          refine r_iconst (v := (1 : Int32)) dX10_book_76 (by decide) ?_
          refine r_iret dX10_book_77 rfl rfl ?_
          exact ⟨_, rfl, by rw [f_X10_book, if_neg c1, if_neg c2, if_neg c3, if_neg c4], by rw [f_X10_book, if_neg c1, if_neg c2, if_neg c3, if_neg c4]⟩
        · refine r_bipush (v := (-2 : Int32)) dX10_book_50 (by decide) ?_
          refine r_iret dX10_book_52 rfl rfl ?_
          exact ⟨_, rfl, by rw [f_X10_book, if_neg c1, if_neg c2, if_neg c3, if_pos c4], by rw [f_X10_book, if_neg c1, if_neg c2, if_neg c3, if_pos c4]⟩

def f_X10_test (σ : MSt) (p1 : Int32) (p2 : Int32) : Int32 × MSt := (if (f_X10_in (Int32.toInt64 p1) (0 : Int64) (2 : Int64)) = 0 then ((-2 : Int32), σ) else (if (f_X10_in (Int32.toInt64 p2) (0 : Int64) (100 : Int64)) = 0 then ((-2 : Int32), σ) else ((σ.2.2 15 (Int32.toNatClampNeg p1)), (ma σ 15 (Int32.toNatClampNeg p1) p2))))
set_option maxRecDepth 100000 in
set_option maxHeartbeats 1000000 in
theorem ok_X10_test {g : GC} {E : ME} {d : Nat} (hE : MEok E) (hd : 1 ≤ d) (σ : MSt) (p1 : Int32) (p2 : Int32) (h0 : MInv σ) : MC g E d yX10_test cX10_test 4 (some FieldType.int) [.int p1, .int p2] (fun v σ' => v = some (.int (f_X10_test σ p1 p2).1) ∧ σ' = (f_X10_test σ p1 p2).2) σ := by
  refine AM.of2 (own := RX10) (nm := "test") (L0 := [(0, .ref E.2.2), (1, .int p1), (2, .int p2)]) (by decide) rfl rfl (Nat.le_of_ble_eq_true rfl) rfl ?_
  refine r_iload_n dX10_test_0 rfl ?_
  refine r_i2l dX10_test_1 ?_
  refine r_lconst (v := (0 : Int64)) dX10_test_2 (by decide) ?_
  refine r_ldc2 dX10_test_3 kc_RX10_168 ?_
  refine m_callS dX10_test_6 mf_X10_in ml_RX10_149 (ok_X10_in (d := d - 1) (by omega) _ _ _) rfl rfl (Nat.le_of_ble_eq_true rfl) (by omega) ?_
  refine r_if_eq (tgt := 24) dX10_test_9 (by decide) (fun c1 => ?_) (fun c1 => ?_)
  · refine r_bipush (v := (-2 : Int32)) dX10_test_24 (by decide) ?_
    refine r_iret dX10_test_26 rfl rfl ?_
    exact ⟨_, rfl, by rw [f_X10_test, if_pos c1], by rw [f_X10_test, if_pos c1]⟩
  · refine r_iload_n dX10_test_12 rfl ?_
    refine r_i2l dX10_test_13 ?_
    refine r_lconst (v := (0 : Int64)) dX10_test_14 (by decide) ?_
    refine r_ldc2 dX10_test_15 kc_RX10_172 ?_
    refine m_callS dX10_test_18 mf_X10_in ml_RX10_149 (ok_X10_in (d := d - 1) (by omega) _ _ _) rfl rfl (Nat.le_of_ble_eq_true rfl) (by omega) ?_
    refine r_if_ne (tgt := 27) dX10_test_21 (by decide) (fun c2 => ?_) (fun c2 => ?_)
    · refine r_aload_n dX10_test_27 rfl ?_
      refine m_get dX10_test_28 fl_RX10_44 rfl ?_
      refine r_iload_n dX10_test_31 rfl ?_
      refine m_iald (k := 15) (N := 3) hE (by decide) rfl rfl dX10_test_32 (by exact in3 (by with_reducible assumption)) ?_
      refine r_istore_n dX10_test_33 (by decide) ?_
      refine r_aload_n dX10_test_34 rfl ?_
      refine m_get dX10_test_35 fl_RX10_44 rfl ?_
      refine r_iload_n dX10_test_38 rfl ?_
      refine r_iload_n dX10_test_39 rfl ?_
      refine m_iast (k := 15) (N := 3) hE (by decide) rfl rfl dX10_test_40 (by exact in3 (by with_reducible assumption)) ?_
      refine r_iload_n dX10_test_41 rfl ?_
      refine r_iret dX10_test_42 rfl rfl ?_
      exact ⟨_, rfl, by rw [f_X10_test, if_neg c1, if_neg c2], by rw [f_X10_test, if_neg c1, if_neg c2]⟩
    · refine r_bipush (v := (-2 : Int32)) dX10_test_24 (by decide) ?_
      refine r_iret dX10_test_26 rfl rfl ?_
      exact ⟨_, rfl, by rw [f_X10_test, if_neg c1, if_pos c2], by rw [f_X10_test, if_neg c1, if_pos c2]⟩

def f_X10_bottle (σ : MSt) (p1 : Int32) (p2 : Int32) (p3 : Int32) : Int32 × MSt := (if (f_X10_in (Int32.toInt64 p1) (0 : Int64) (5 : Int64)) = 0 then ((-2 : Int32), σ) else (if p2 < 0 then ((-2 : Int32), σ) else (if (f_X10_isWine σ (p2 / (10 : Int32))) = 0 then ((-2 : Int32), σ) else (if (f_X10_isWine σ (p2 - p2 / (10 : Int32) * (10 : Int32))) = 0 then ((-2 : Int32), σ) else (if (f_X10_areParts p3) = 0 then ((-2 : Int32), σ) else (if (σ.1 20) = (24 : Int32) then ((-4 : Int32), σ) else ((((mp (ma (ma (ma (ma σ 16 (Int32.toNatClampNeg (σ.1 20)) p1) 17 (Int32.toNatClampNeg ((ma σ 16 (Int32.toNatClampNeg (σ.1 20)) p1).1 20)) (p2 / (10 : Int32))) 18 (Int32.toNatClampNeg ((ma (ma σ 16 (Int32.toNatClampNeg (σ.1 20)) p1) 17 (Int32.toNatClampNeg ((ma σ 16 (Int32.toNatClampNeg (σ.1 20)) p1).1 20)) (p2 / (10 : Int32))).1 20)) (p2 - p2 / (10 : Int32) * (10 : Int32))) 19 (Int32.toNatClampNeg ((ma (ma (ma σ 16 (Int32.toNatClampNeg (σ.1 20)) p1) 17 (Int32.toNatClampNeg ((ma σ 16 (Int32.toNatClampNeg (σ.1 20)) p1).1 20)) (p2 / (10 : Int32))) 18 (Int32.toNatClampNeg ((ma (ma σ 16 (Int32.toNatClampNeg (σ.1 20)) p1) 17 (Int32.toNatClampNeg ((ma σ 16 (Int32.toNatClampNeg (σ.1 20)) p1).1 20)) (p2 / (10 : Int32))).1 20)) (p2 - p2 / (10 : Int32) * (10 : Int32))).1 20)) p3) 20 (((ma (ma (ma (ma σ 16 (Int32.toNatClampNeg (σ.1 20)) p1) 17 (Int32.toNatClampNeg ((ma σ 16 (Int32.toNatClampNeg (σ.1 20)) p1).1 20)) (p2 / (10 : Int32))) 18 (Int32.toNatClampNeg ((ma (ma σ 16 (Int32.toNatClampNeg (σ.1 20)) p1) 17 (Int32.toNatClampNeg ((ma σ 16 (Int32.toNatClampNeg (σ.1 20)) p1).1 20)) (p2 / (10 : Int32))).1 20)) (p2 - p2 / (10 : Int32) * (10 : Int32))) 19 (Int32.toNatClampNeg ((ma (ma (ma σ 16 (Int32.toNatClampNeg (σ.1 20)) p1) 17 (Int32.toNatClampNeg ((ma σ 16 (Int32.toNatClampNeg (σ.1 20)) p1).1 20)) (p2 / (10 : Int32))) 18 (Int32.toNatClampNeg ((ma (ma σ 16 (Int32.toNatClampNeg (σ.1 20)) p1) 17 (Int32.toNatClampNeg ((ma σ 16 (Int32.toNatClampNeg (σ.1 20)) p1).1 20)) (p2 / (10 : Int32))).1 20)) (p2 - p2 / (10 : Int32) * (10 : Int32))).1 20)) p3).1 20) + (1 : Int32))).1 20) - (1 : Int32)), (mp (ma (ma (ma (ma σ 16 (Int32.toNatClampNeg (σ.1 20)) p1) 17 (Int32.toNatClampNeg ((ma σ 16 (Int32.toNatClampNeg (σ.1 20)) p1).1 20)) (p2 / (10 : Int32))) 18 (Int32.toNatClampNeg ((ma (ma σ 16 (Int32.toNatClampNeg (σ.1 20)) p1) 17 (Int32.toNatClampNeg ((ma σ 16 (Int32.toNatClampNeg (σ.1 20)) p1).1 20)) (p2 / (10 : Int32))).1 20)) (p2 - p2 / (10 : Int32) * (10 : Int32))) 19 (Int32.toNatClampNeg ((ma (ma (ma σ 16 (Int32.toNatClampNeg (σ.1 20)) p1) 17 (Int32.toNatClampNeg ((ma σ 16 (Int32.toNatClampNeg (σ.1 20)) p1).1 20)) (p2 / (10 : Int32))) 18 (Int32.toNatClampNeg ((ma (ma σ 16 (Int32.toNatClampNeg (σ.1 20)) p1) 17 (Int32.toNatClampNeg ((ma σ 16 (Int32.toNatClampNeg (σ.1 20)) p1).1 20)) (p2 / (10 : Int32))).1 20)) (p2 - p2 / (10 : Int32) * (10 : Int32))).1 20)) p3) 20 (((ma (ma (ma (ma σ 16 (Int32.toNatClampNeg (σ.1 20)) p1) 17 (Int32.toNatClampNeg ((ma σ 16 (Int32.toNatClampNeg (σ.1 20)) p1).1 20)) (p2 / (10 : Int32))) 18 (Int32.toNatClampNeg ((ma (ma σ 16 (Int32.toNatClampNeg (σ.1 20)) p1) 17 (Int32.toNatClampNeg ((ma σ 16 (Int32.toNatClampNeg (σ.1 20)) p1).1 20)) (p2 / (10 : Int32))).1 20)) (p2 - p2 / (10 : Int32) * (10 : Int32))) 19 (Int32.toNatClampNeg ((ma (ma (ma σ 16 (Int32.toNatClampNeg (σ.1 20)) p1) 17 (Int32.toNatClampNeg ((ma σ 16 (Int32.toNatClampNeg (σ.1 20)) p1).1 20)) (p2 / (10 : Int32))) 18 (Int32.toNatClampNeg ((ma (ma σ 16 (Int32.toNatClampNeg (σ.1 20)) p1) 17 (Int32.toNatClampNeg ((ma σ 16 (Int32.toNatClampNeg (σ.1 20)) p1).1 20)) (p2 / (10 : Int32))).1 20)) (p2 - p2 / (10 : Int32) * (10 : Int32))).1 20)) p3).1 20) + (1 : Int32))))))))))
set_option maxRecDepth 100000 in
set_option maxHeartbeats 1000000 in
theorem ok_X10_bottle {g : GC} {E : ME} {d : Nat} (hE : MEok E) (hd : 2 ≤ d) (σ : MSt) (p1 : Int32) (p2 : Int32) (p3 : Int32) (h0 : MInv σ) : MC g E d yX10_bottle cX10_bottle 4 (some FieldType.int) [.int p1, .int p2, .int p3] (fun v σ' => v = some (.int (f_X10_bottle σ p1 p2 p3).1) ∧ σ' = (f_X10_bottle σ p1 p2 p3).2) σ := by
  refine AM.of2 (own := RX10) (nm := "bottle") (L0 := [(0, .ref E.2.2), (1, .int p1), (2, .int p2), (3, .int p3)]) (by decide) rfl rfl (Nat.le_of_ble_eq_true rfl) rfl ?_
  refine r_iload_n dX10_bottle_0 rfl ?_
  refine r_i2l dX10_bottle_1 ?_
  refine r_lconst (v := (0 : Int64)) dX10_bottle_2 (by decide) ?_
  refine r_ldc2 dX10_bottle_3 kc_RX10_177 ?_
  refine m_callS dX10_bottle_6 mf_X10_in ml_RX10_149 (ok_X10_in (d := d - 1) (by omega) _ _ _) rfl rfl (Nat.le_of_ble_eq_true rfl) (by omega) ?_
  refine r_if_eq (tgt := 45) dX10_bottle_9 (by decide) (fun c1 => ?_) (fun c1 => ?_)
  · refine r_bipush (v := (-2 : Int32)) dX10_bottle_45 (by decide) ?_
    refine r_iret dX10_bottle_47 rfl rfl ?_
    exact ⟨_, rfl, by rw [f_X10_bottle, if_pos c1], by rw [f_X10_bottle, if_pos c1]⟩
  · refine r_iload_n dX10_bottle_12 rfl ?_
    refine r_if_lt (tgt := 45) dX10_bottle_13 (by decide) (fun c2 => ?_) (fun c2 => ?_)
    · refine r_bipush (v := (-2 : Int32)) dX10_bottle_45 (by decide) ?_
      refine r_iret dX10_bottle_47 rfl rfl ?_
      exact ⟨_, rfl, by rw [f_X10_bottle, if_neg c1, if_pos c2], by rw [f_X10_bottle, if_neg c1, if_pos c2]⟩
    · refine r_aload_n dX10_bottle_16 rfl ?_
      refine r_iload_n dX10_bottle_17 rfl ?_
      refine r_bipush (v := (10 : Int32)) dX10_bottle_18 (by decide) ?_
      refine r_idiv dX10_bottle_20 (by decide) ?_
      refine m_callW dX10_bottle_21 mf_X10_isWine ml_RX10_165 (ok_X10_isWine (d := d - 1) hE (by omega) _ _) rfl rfl rfl (Nat.le_of_ble_eq_true rfl) (by omega) ?_
      refine r_if_eq (tgt := 45) dX10_bottle_24 (by decide) (fun c3 => ?_) (fun c3 => ?_)
      · refine r_bipush (v := (-2 : Int32)) dX10_bottle_45 (by decide) ?_
        refine r_iret dX10_bottle_47 rfl rfl ?_
        exact ⟨_, rfl, by rw [f_X10_bottle, if_neg c1, if_neg c2, if_pos c3], by rw [f_X10_bottle, if_neg c1, if_neg c2, if_pos c3]⟩
      · refine r_aload_n dX10_bottle_27 rfl ?_
        refine r_iload_n dX10_bottle_28 rfl ?_
        refine r_bipush (v := (10 : Int32)) dX10_bottle_29 (by decide) ?_
        refine r_irem dX10_bottle_31 (by decide) ?_
        refine m_callW dX10_bottle_32 mf_X10_isWine ml_RX10_165 (ok_X10_isWine (d := d - 1) hE (by omega) _ _) rfl rfl rfl (Nat.le_of_ble_eq_true rfl) (by omega) ?_
        refine r_if_eq (tgt := 45) dX10_bottle_35 (by decide) (fun c4 => ?_) (fun c4 => ?_)
        · refine r_bipush (v := (-2 : Int32)) dX10_bottle_45 (by decide) ?_
          refine r_iret dX10_bottle_47 rfl rfl ?_
          exact ⟨_, rfl, by rw [f_X10_bottle, if_neg c1, if_neg c2, if_neg c3, if_pos c4], by rw [f_X10_bottle, if_neg c1, if_neg c2, if_neg c3, if_pos c4]⟩
        · refine r_iload_n dX10_bottle_38 rfl ?_
          refine m_callS dX10_bottle_39 mf_X10_areParts ml_RX10_159 (ok_X10_areParts (d := d - 1) (by omega) _) rfl rfl (Nat.le_of_ble_eq_true rfl) (by omega) ?_
          refine r_if_ne (tgt := 48) dX10_bottle_42 (by decide) (fun c5 => ?_) (fun c5 => ?_)
          · refine r_aload_n dX10_bottle_48 rfl ?_
            refine m_get dX10_bottle_49 fl_RX10_174 rfl ?_
            refine r_bipush (v := (24 : Int32)) dX10_bottle_52 (by decide) ?_
            refine r_icmp_ne (tgt := 60) dX10_bottle_54 (by decide) (fun c6 => ?_) (fun c6 => ?_)
            · refine r_aload_n dX10_bottle_60 rfl ?_
              refine m_get dX10_bottle_61 fl_RX10_47 rfl ?_
              refine r_aload_n dX10_bottle_64 rfl ?_
              refine m_get dX10_bottle_65 fl_RX10_174 rfl ?_
              refine r_iload_n dX10_bottle_68 rfl ?_
              refine m_iast (k := 16) (N := 24) hE (by decide) rfl rfl dX10_bottle_69 (by exact ne_ct (by decide) h0.nb (by with_reducible assumption : ¬ σ.1 20 = 24)) ?_
              refine r_aload_n dX10_bottle_70 rfl ?_
              refine m_get dX10_bottle_71 fl_RX10_50 rfl ?_
              refine r_aload_n dX10_bottle_74 rfl ?_
              refine m_get dX10_bottle_75 fl_RX10_174 rfl ?_
              refine r_iload_n dX10_bottle_78 rfl ?_
              refine r_bipush (v := (10 : Int32)) dX10_bottle_79 (by decide) ?_
              refine r_idiv dX10_bottle_81 (by decide) ?_
              refine m_iast (k := 17) (N := 24) hE (by decide) rfl rfl dX10_bottle_82 (by exact ne_ct (by decide) h0.nb (by with_reducible assumption : ¬ σ.1 20 = 24)) ?_
              refine r_aload_n dX10_bottle_83 rfl ?_
              refine m_get dX10_bottle_84 fl_RX10_53 rfl ?_
              refine r_aload_n dX10_bottle_87 rfl ?_
              refine m_get dX10_bottle_88 fl_RX10_174 rfl ?_
              refine r_iload_n dX10_bottle_91 rfl ?_
              refine r_bipush (v := (10 : Int32)) dX10_bottle_92 (by decide) ?_
              refine r_irem dX10_bottle_94 (by decide) ?_
              refine m_iast (k := 18) (N := 24) hE (by decide) rfl rfl dX10_bottle_95 (by exact ne_ct (by decide) h0.nb (by with_reducible assumption : ¬ σ.1 20 = 24)) ?_
              refine r_aload_n dX10_bottle_96 rfl ?_
              refine m_get dX10_bottle_97 fl_RX10_56 rfl ?_
              refine r_aload_n dX10_bottle_100 rfl ?_
              refine m_get dX10_bottle_101 fl_RX10_174 rfl ?_
              refine r_iload_n dX10_bottle_104 rfl ?_
              refine m_iast (k := 19) (N := 24) hE (by decide) rfl rfl dX10_bottle_105 (by exact ne_ct (by decide) h0.nb (by with_reducible assumption : ¬ σ.1 20 = 24)) ?_
              refine r_aload_n dX10_bottle_106 rfl ?_
              refine r_dup dX10_bottle_107 rfl ?_
              refine m_get dX10_bottle_108 fl_RX10_174 rfl ?_
              refine r_iconst (v := (1 : Int32)) dX10_bottle_111 (by decide) ?_
              refine r_iadd dX10_bottle_112 ?_
              refine m_put hE dX10_bottle_113 fp_RX10_174 rfl rfl rfl (by decide) ?_
              refine r_aload_n dX10_bottle_116 rfl ?_
              refine m_get dX10_bottle_117 fl_RX10_174 rfl ?_
              refine r_iconst (v := (1 : Int32)) dX10_bottle_120 (by decide) ?_
              refine r_isub dX10_bottle_121 ?_
              refine r_iret dX10_bottle_122 rfl rfl ?_
              exact ⟨_, rfl, by rw [f_X10_bottle, if_neg c1, if_neg c2, if_neg c3, if_neg c4, if_neg c5, if_neg c6], by rw [f_X10_bottle, if_neg c1, if_neg c2, if_neg c3, if_neg c4, if_neg c5, if_neg c6]⟩
            · refine r_bipush (v := (-4 : Int32)) dX10_bottle_57 (by decide) ?_
              refine r_iret dX10_bottle_59 rfl rfl ?_
              exact ⟨_, rfl, by rw [f_X10_bottle, if_neg c1, if_neg c2, if_neg c3, if_neg c4, if_neg c5, if_pos c6], by rw [f_X10_bottle, if_neg c1, if_neg c2, if_neg c3, if_neg c4, if_neg c5, if_pos c6]⟩
          · refine r_bipush (v := (-2 : Int32)) dX10_bottle_45 (by decide) ?_
            refine r_iret dX10_bottle_47 rfl rfl ?_
            exact ⟨_, rfl, by rw [f_X10_bottle, if_neg c1, if_neg c2, if_neg c3, if_neg c4, if_pos c5], by rw [f_X10_bottle, if_neg c1, if_neg c2, if_neg c3, if_neg c4, if_pos c5]⟩

def f_X10_sale (σ : MSt) (p1 : Int32) (p2 : Int32) (p3 : Int32) (p4 : Int32) : Int32 × MSt := (if (f_X10_isBottle σ p1) = 0 then ((-2 : Int32), σ) else (if (f_X10_in (Int32.toInt64 p2) (0 : Int64) (99 : Int64)) = 0 then ((-2 : Int32), σ) else (if (p2 / (10 : Int32)) = (p2 - p2 / (10 : Int32) * (10 : Int32)) then ((-2 : Int32), σ) else (if (f_X10_in (Int32.toInt64 p3) (0 : Int64) (9999 : Int64)) = 0 then ((-2 : Int32), σ) else (if (f_X10_in (Int32.toInt64 p4) (0 : Int64) (99 : Int64)) = 0 then ((-2 : Int32), σ) else (if (f_X10_lastOf σ p1 (σ.1 26)) = (-1 : Int32) then (if (σ.1 26) = (40 : Int32) then ((-4 : Int32), σ) else ((((mp (ma (ma (ma (ma (ma σ 21 (Int32.toNatClampNeg (σ.1 26)) p1) 22 (Int32.toNatClampNeg ((ma σ 21 (Int32.toNatClampNeg (σ.1 26)) p1).1 26)) (p2 / (10 : Int32))) 23 (Int32.toNatClampNeg ((ma (ma σ 21 (Int32.toNatClampNeg (σ.1 26)) p1) 22 (Int32.toNatClampNeg ((ma σ 21 (Int32.toNatClampNeg (σ.1 26)) p1).1 26)) (p2 / (10 : Int32))).1 26)) (p2 - p2 / (10 : Int32) * (10 : Int32))) 24 (Int32.toNatClampNeg ((ma (ma (ma σ 21 (Int32.toNatClampNeg (σ.1 26)) p1) 22 (Int32.toNatClampNeg ((ma σ 21 (Int32.toNatClampNeg (σ.1 26)) p1).1 26)) (p2 / (10 : Int32))) 23 (Int32.toNatClampNeg ((ma (ma σ 21 (Int32.toNatClampNeg (σ.1 26)) p1) 22 (Int32.toNatClampNeg ((ma σ 21 (Int32.toNatClampNeg (σ.1 26)) p1).1 26)) (p2 / (10 : Int32))).1 26)) (p2 - p2 / (10 : Int32) * (10 : Int32))).1 26)) p3) 25 (Int32.toNatClampNeg ((ma (ma (ma (ma σ 21 (Int32.toNatClampNeg (σ.1 26)) p1) 22 (Int32.toNatClampNeg ((ma σ 21 (Int32.toNatClampNeg (σ.1 26)) p1).1 26)) (p2 / (10 : Int32))) 23 (Int32.toNatClampNeg ((ma (ma σ 21 (Int32.toNatClampNeg (σ.1 26)) p1) 22 (Int32.toNatClampNeg ((ma σ 21 (Int32.toNatClampNeg (σ.1 26)) p1).1 26)) (p2 / (10 : Int32))).1 26)) (p2 - p2 / (10 : Int32) * (10 : Int32))) 24 (Int32.toNatClampNeg ((ma (ma (ma σ 21 (Int32.toNatClampNeg (σ.1 26)) p1) 22 (Int32.toNatClampNeg ((ma σ 21 (Int32.toNatClampNeg (σ.1 26)) p1).1 26)) (p2 / (10 : Int32))) 23 (Int32.toNatClampNeg ((ma (ma σ 21 (Int32.toNatClampNeg (σ.1 26)) p1) 22 (Int32.toNatClampNeg ((ma σ 21 (Int32.toNatClampNeg (σ.1 26)) p1).1 26)) (p2 / (10 : Int32))).1 26)) (p2 - p2 / (10 : Int32) * (10 : Int32))).1 26)) p3).1 26)) p4) 26 (((ma (ma (ma (ma (ma σ 21 (Int32.toNatClampNeg (σ.1 26)) p1) 22 (Int32.toNatClampNeg ((ma σ 21 (Int32.toNatClampNeg (σ.1 26)) p1).1 26)) (p2 / (10 : Int32))) 23 (Int32.toNatClampNeg ((ma (ma σ 21 (Int32.toNatClampNeg (σ.1 26)) p1) 22 (Int32.toNatClampNeg ((ma σ 21 (Int32.toNatClampNeg (σ.1 26)) p1).1 26)) (p2 / (10 : Int32))).1 26)) (p2 - p2 / (10 : Int32) * (10 : Int32))) 24 (Int32.toNatClampNeg ((ma (ma (ma σ 21 (Int32.toNatClampNeg (σ.1 26)) p1) 22 (Int32.toNatClampNeg ((ma σ 21 (Int32.toNatClampNeg (σ.1 26)) p1).1 26)) (p2 / (10 : Int32))) 23 (Int32.toNatClampNeg ((ma (ma σ 21 (Int32.toNatClampNeg (σ.1 26)) p1) 22 (Int32.toNatClampNeg ((ma σ 21 (Int32.toNatClampNeg (σ.1 26)) p1).1 26)) (p2 / (10 : Int32))).1 26)) (p2 - p2 / (10 : Int32) * (10 : Int32))).1 26)) p3) 25 (Int32.toNatClampNeg ((ma (ma (ma (ma σ 21 (Int32.toNatClampNeg (σ.1 26)) p1) 22 (Int32.toNatClampNeg ((ma σ 21 (Int32.toNatClampNeg (σ.1 26)) p1).1 26)) (p2 / (10 : Int32))) 23 (Int32.toNatClampNeg ((ma (ma σ 21 (Int32.toNatClampNeg (σ.1 26)) p1) 22 (Int32.toNatClampNeg ((ma σ 21 (Int32.toNatClampNeg (σ.1 26)) p1).1 26)) (p2 / (10 : Int32))).1 26)) (p2 - p2 / (10 : Int32) * (10 : Int32))) 24 (Int32.toNatClampNeg ((ma (ma (ma σ 21 (Int32.toNatClampNeg (σ.1 26)) p1) 22 (Int32.toNatClampNeg ((ma σ 21 (Int32.toNatClampNeg (σ.1 26)) p1).1 26)) (p2 / (10 : Int32))) 23 (Int32.toNatClampNeg ((ma (ma σ 21 (Int32.toNatClampNeg (σ.1 26)) p1) 22 (Int32.toNatClampNeg ((ma σ 21 (Int32.toNatClampNeg (σ.1 26)) p1).1 26)) (p2 / (10 : Int32))).1 26)) (p2 - p2 / (10 : Int32) * (10 : Int32))).1 26)) p3).1 26)) p4).1 26) + (1 : Int32))).1 26) - (1 : Int32)), (mp (ma (ma (ma (ma (ma σ 21 (Int32.toNatClampNeg (σ.1 26)) p1) 22 (Int32.toNatClampNeg ((ma σ 21 (Int32.toNatClampNeg (σ.1 26)) p1).1 26)) (p2 / (10 : Int32))) 23 (Int32.toNatClampNeg ((ma (ma σ 21 (Int32.toNatClampNeg (σ.1 26)) p1) 22 (Int32.toNatClampNeg ((ma σ 21 (Int32.toNatClampNeg (σ.1 26)) p1).1 26)) (p2 / (10 : Int32))).1 26)) (p2 - p2 / (10 : Int32) * (10 : Int32))) 24 (Int32.toNatClampNeg ((ma (ma (ma σ 21 (Int32.toNatClampNeg (σ.1 26)) p1) 22 (Int32.toNatClampNeg ((ma σ 21 (Int32.toNatClampNeg (σ.1 26)) p1).1 26)) (p2 / (10 : Int32))) 23 (Int32.toNatClampNeg ((ma (ma σ 21 (Int32.toNatClampNeg (σ.1 26)) p1) 22 (Int32.toNatClampNeg ((ma σ 21 (Int32.toNatClampNeg (σ.1 26)) p1).1 26)) (p2 / (10 : Int32))).1 26)) (p2 - p2 / (10 : Int32) * (10 : Int32))).1 26)) p3) 25 (Int32.toNatClampNeg ((ma (ma (ma (ma σ 21 (Int32.toNatClampNeg (σ.1 26)) p1) 22 (Int32.toNatClampNeg ((ma σ 21 (Int32.toNatClampNeg (σ.1 26)) p1).1 26)) (p2 / (10 : Int32))) 23 (Int32.toNatClampNeg ((ma (ma σ 21 (Int32.toNatClampNeg (σ.1 26)) p1) 22 (Int32.toNatClampNeg ((ma σ 21 (Int32.toNatClampNeg (σ.1 26)) p1).1 26)) (p2 / (10 : Int32))).1 26)) (p2 - p2 / (10 : Int32) * (10 : Int32))) 24 (Int32.toNatClampNeg ((ma (ma (ma σ 21 (Int32.toNatClampNeg (σ.1 26)) p1) 22 (Int32.toNatClampNeg ((ma σ 21 (Int32.toNatClampNeg (σ.1 26)) p1).1 26)) (p2 / (10 : Int32))) 23 (Int32.toNatClampNeg ((ma (ma σ 21 (Int32.toNatClampNeg (σ.1 26)) p1) 22 (Int32.toNatClampNeg ((ma σ 21 (Int32.toNatClampNeg (σ.1 26)) p1).1 26)) (p2 / (10 : Int32))).1 26)) (p2 - p2 / (10 : Int32) * (10 : Int32))).1 26)) p3).1 26)) p4) 26 (((ma (ma (ma (ma (ma σ 21 (Int32.toNatClampNeg (σ.1 26)) p1) 22 (Int32.toNatClampNeg ((ma σ 21 (Int32.toNatClampNeg (σ.1 26)) p1).1 26)) (p2 / (10 : Int32))) 23 (Int32.toNatClampNeg ((ma (ma σ 21 (Int32.toNatClampNeg (σ.1 26)) p1) 22 (Int32.toNatClampNeg ((ma σ 21 (Int32.toNatClampNeg (σ.1 26)) p1).1 26)) (p2 / (10 : Int32))).1 26)) (p2 - p2 / (10 : Int32) * (10 : Int32))) 24 (Int32.toNatClampNeg ((ma (ma (ma σ 21 (Int32.toNatClampNeg (σ.1 26)) p1) 22 (Int32.toNatClampNeg ((ma σ 21 (Int32.toNatClampNeg (σ.1 26)) p1).1 26)) (p2 / (10 : Int32))) 23 (Int32.toNatClampNeg ((ma (ma σ 21 (Int32.toNatClampNeg (σ.1 26)) p1) 22 (Int32.toNatClampNeg ((ma σ 21 (Int32.toNatClampNeg (σ.1 26)) p1).1 26)) (p2 / (10 : Int32))).1 26)) (p2 - p2 / (10 : Int32) * (10 : Int32))).1 26)) p3) 25 (Int32.toNatClampNeg ((ma (ma (ma (ma σ 21 (Int32.toNatClampNeg (σ.1 26)) p1) 22 (Int32.toNatClampNeg ((ma σ 21 (Int32.toNatClampNeg (σ.1 26)) p1).1 26)) (p2 / (10 : Int32))) 23 (Int32.toNatClampNeg ((ma (ma σ 21 (Int32.toNatClampNeg (σ.1 26)) p1) 22 (Int32.toNatClampNeg ((ma σ 21 (Int32.toNatClampNeg (σ.1 26)) p1).1 26)) (p2 / (10 : Int32))).1 26)) (p2 - p2 / (10 : Int32) * (10 : Int32))) 24 (Int32.toNatClampNeg ((ma (ma (ma σ 21 (Int32.toNatClampNeg (σ.1 26)) p1) 22 (Int32.toNatClampNeg ((ma σ 21 (Int32.toNatClampNeg (σ.1 26)) p1).1 26)) (p2 / (10 : Int32))) 23 (Int32.toNatClampNeg ((ma (ma σ 21 (Int32.toNatClampNeg (σ.1 26)) p1) 22 (Int32.toNatClampNeg ((ma σ 21 (Int32.toNatClampNeg (σ.1 26)) p1).1 26)) (p2 / (10 : Int32))).1 26)) (p2 - p2 / (10 : Int32) * (10 : Int32))).1 26)) p3).1 26)) p4).1 26) + (1 : Int32))))) else (if (σ.2.2 25 (Int32.toNatClampNeg (f_X10_lastOf σ p1 (σ.1 26)))) ≤ p4 then (if (σ.1 26) = (40 : Int32) then ((-4 : Int32), σ) else ((((mp (ma (ma (ma (ma (ma σ 21 (Int32.toNatClampNeg (σ.1 26)) p1) 22 (Int32.toNatClampNeg ((ma σ 21 (Int32.toNatClampNeg (σ.1 26)) p1).1 26)) (p2 / (10 : Int32))) 23 (Int32.toNatClampNeg ((ma (ma σ 21 (Int32.toNatClampNeg (σ.1 26)) p1) 22 (Int32.toNatClampNeg ((ma σ 21 (Int32.toNatClampNeg (σ.1 26)) p1).1 26)) (p2 / (10 : Int32))).1 26)) (p2 - p2 / (10 : Int32) * (10 : Int32))) 24 (Int32.toNatClampNeg ((ma (ma (ma σ 21 (Int32.toNatClampNeg (σ.1 26)) p1) 22 (Int32.toNatClampNeg ((ma σ 21 (Int32.toNatClampNeg (σ.1 26)) p1).1 26)) (p2 / (10 : Int32))) 23 (Int32.toNatClampNeg ((ma (ma σ 21 (Int32.toNatClampNeg (σ.1 26)) p1) 22 (Int32.toNatClampNeg ((ma σ 21 (Int32.toNatClampNeg (σ.1 26)) p1).1 26)) (p2 / (10 : Int32))).1 26)) (p2 - p2 / (10 : Int32) * (10 : Int32))).1 26)) p3) 25 (Int32.toNatClampNeg ((ma (ma (ma (ma σ 21 (Int32.toNatClampNeg (σ.1 26)) p1) 22 (Int32.toNatClampNeg ((ma σ 21 (Int32.toNatClampNeg (σ.1 26)) p1).1 26)) (p2 / (10 : Int32))) 23 (Int32.toNatClampNeg ((ma (ma σ 21 (Int32.toNatClampNeg (σ.1 26)) p1) 22 (Int32.toNatClampNeg ((ma σ 21 (Int32.toNatClampNeg (σ.1 26)) p1).1 26)) (p2 / (10 : Int32))).1 26)) (p2 - p2 / (10 : Int32) * (10 : Int32))) 24 (Int32.toNatClampNeg ((ma (ma (ma σ 21 (Int32.toNatClampNeg (σ.1 26)) p1) 22 (Int32.toNatClampNeg ((ma σ 21 (Int32.toNatClampNeg (σ.1 26)) p1).1 26)) (p2 / (10 : Int32))) 23 (Int32.toNatClampNeg ((ma (ma σ 21 (Int32.toNatClampNeg (σ.1 26)) p1) 22 (Int32.toNatClampNeg ((ma σ 21 (Int32.toNatClampNeg (σ.1 26)) p1).1 26)) (p2 / (10 : Int32))).1 26)) (p2 - p2 / (10 : Int32) * (10 : Int32))).1 26)) p3).1 26)) p4) 26 (((ma (ma (ma (ma (ma σ 21 (Int32.toNatClampNeg (σ.1 26)) p1) 22 (Int32.toNatClampNeg ((ma σ 21 (Int32.toNatClampNeg (σ.1 26)) p1).1 26)) (p2 / (10 : Int32))) 23 (Int32.toNatClampNeg ((ma (ma σ 21 (Int32.toNatClampNeg (σ.1 26)) p1) 22 (Int32.toNatClampNeg ((ma σ 21 (Int32.toNatClampNeg (σ.1 26)) p1).1 26)) (p2 / (10 : Int32))).1 26)) (p2 - p2 / (10 : Int32) * (10 : Int32))) 24 (Int32.toNatClampNeg ((ma (ma (ma σ 21 (Int32.toNatClampNeg (σ.1 26)) p1) 22 (Int32.toNatClampNeg ((ma σ 21 (Int32.toNatClampNeg (σ.1 26)) p1).1 26)) (p2 / (10 : Int32))) 23 (Int32.toNatClampNeg ((ma (ma σ 21 (Int32.toNatClampNeg (σ.1 26)) p1) 22 (Int32.toNatClampNeg ((ma σ 21 (Int32.toNatClampNeg (σ.1 26)) p1).1 26)) (p2 / (10 : Int32))).1 26)) (p2 - p2 / (10 : Int32) * (10 : Int32))).1 26)) p3) 25 (Int32.toNatClampNeg ((ma (ma (ma (ma σ 21 (Int32.toNatClampNeg (σ.1 26)) p1) 22 (Int32.toNatClampNeg ((ma σ 21 (Int32.toNatClampNeg (σ.1 26)) p1).1 26)) (p2 / (10 : Int32))) 23 (Int32.toNatClampNeg ((ma (ma σ 21 (Int32.toNatClampNeg (σ.1 26)) p1) 22 (Int32.toNatClampNeg ((ma σ 21 (Int32.toNatClampNeg (σ.1 26)) p1).1 26)) (p2 / (10 : Int32))).1 26)) (p2 - p2 / (10 : Int32) * (10 : Int32))) 24 (Int32.toNatClampNeg ((ma (ma (ma σ 21 (Int32.toNatClampNeg (σ.1 26)) p1) 22 (Int32.toNatClampNeg ((ma σ 21 (Int32.toNatClampNeg (σ.1 26)) p1).1 26)) (p2 / (10 : Int32))) 23 (Int32.toNatClampNeg ((ma (ma σ 21 (Int32.toNatClampNeg (σ.1 26)) p1) 22 (Int32.toNatClampNeg ((ma σ 21 (Int32.toNatClampNeg (σ.1 26)) p1).1 26)) (p2 / (10 : Int32))).1 26)) (p2 - p2 / (10 : Int32) * (10 : Int32))).1 26)) p3).1 26)) p4).1 26) + (1 : Int32))).1 26) - (1 : Int32)), (mp (ma (ma (ma (ma (ma σ 21 (Int32.toNatClampNeg (σ.1 26)) p1) 22 (Int32.toNatClampNeg ((ma σ 21 (Int32.toNatClampNeg (σ.1 26)) p1).1 26)) (p2 / (10 : Int32))) 23 (Int32.toNatClampNeg ((ma (ma σ 21 (Int32.toNatClampNeg (σ.1 26)) p1) 22 (Int32.toNatClampNeg ((ma σ 21 (Int32.toNatClampNeg (σ.1 26)) p1).1 26)) (p2 / (10 : Int32))).1 26)) (p2 - p2 / (10 : Int32) * (10 : Int32))) 24 (Int32.toNatClampNeg ((ma (ma (ma σ 21 (Int32.toNatClampNeg (σ.1 26)) p1) 22 (Int32.toNatClampNeg ((ma σ 21 (Int32.toNatClampNeg (σ.1 26)) p1).1 26)) (p2 / (10 : Int32))) 23 (Int32.toNatClampNeg ((ma (ma σ 21 (Int32.toNatClampNeg (σ.1 26)) p1) 22 (Int32.toNatClampNeg ((ma σ 21 (Int32.toNatClampNeg (σ.1 26)) p1).1 26)) (p2 / (10 : Int32))).1 26)) (p2 - p2 / (10 : Int32) * (10 : Int32))).1 26)) p3) 25 (Int32.toNatClampNeg ((ma (ma (ma (ma σ 21 (Int32.toNatClampNeg (σ.1 26)) p1) 22 (Int32.toNatClampNeg ((ma σ 21 (Int32.toNatClampNeg (σ.1 26)) p1).1 26)) (p2 / (10 : Int32))) 23 (Int32.toNatClampNeg ((ma (ma σ 21 (Int32.toNatClampNeg (σ.1 26)) p1) 22 (Int32.toNatClampNeg ((ma σ 21 (Int32.toNatClampNeg (σ.1 26)) p1).1 26)) (p2 / (10 : Int32))).1 26)) (p2 - p2 / (10 : Int32) * (10 : Int32))) 24 (Int32.toNatClampNeg ((ma (ma (ma σ 21 (Int32.toNatClampNeg (σ.1 26)) p1) 22 (Int32.toNatClampNeg ((ma σ 21 (Int32.toNatClampNeg (σ.1 26)) p1).1 26)) (p2 / (10 : Int32))) 23 (Int32.toNatClampNeg ((ma (ma σ 21 (Int32.toNatClampNeg (σ.1 26)) p1) 22 (Int32.toNatClampNeg ((ma σ 21 (Int32.toNatClampNeg (σ.1 26)) p1).1 26)) (p2 / (10 : Int32))).1 26)) (p2 - p2 / (10 : Int32) * (10 : Int32))).1 26)) p3).1 26)) p4) 26 (((ma (ma (ma (ma (ma σ 21 (Int32.toNatClampNeg (σ.1 26)) p1) 22 (Int32.toNatClampNeg ((ma σ 21 (Int32.toNatClampNeg (σ.1 26)) p1).1 26)) (p2 / (10 : Int32))) 23 (Int32.toNatClampNeg ((ma (ma σ 21 (Int32.toNatClampNeg (σ.1 26)) p1) 22 (Int32.toNatClampNeg ((ma σ 21 (Int32.toNatClampNeg (σ.1 26)) p1).1 26)) (p2 / (10 : Int32))).1 26)) (p2 - p2 / (10 : Int32) * (10 : Int32))) 24 (Int32.toNatClampNeg ((ma (ma (ma σ 21 (Int32.toNatClampNeg (σ.1 26)) p1) 22 (Int32.toNatClampNeg ((ma σ 21 (Int32.toNatClampNeg (σ.1 26)) p1).1 26)) (p2 / (10 : Int32))) 23 (Int32.toNatClampNeg ((ma (ma σ 21 (Int32.toNatClampNeg (σ.1 26)) p1) 22 (Int32.toNatClampNeg ((ma σ 21 (Int32.toNatClampNeg (σ.1 26)) p1).1 26)) (p2 / (10 : Int32))).1 26)) (p2 - p2 / (10 : Int32) * (10 : Int32))).1 26)) p3) 25 (Int32.toNatClampNeg ((ma (ma (ma (ma σ 21 (Int32.toNatClampNeg (σ.1 26)) p1) 22 (Int32.toNatClampNeg ((ma σ 21 (Int32.toNatClampNeg (σ.1 26)) p1).1 26)) (p2 / (10 : Int32))) 23 (Int32.toNatClampNeg ((ma (ma σ 21 (Int32.toNatClampNeg (σ.1 26)) p1) 22 (Int32.toNatClampNeg ((ma σ 21 (Int32.toNatClampNeg (σ.1 26)) p1).1 26)) (p2 / (10 : Int32))).1 26)) (p2 - p2 / (10 : Int32) * (10 : Int32))) 24 (Int32.toNatClampNeg ((ma (ma (ma σ 21 (Int32.toNatClampNeg (σ.1 26)) p1) 22 (Int32.toNatClampNeg ((ma σ 21 (Int32.toNatClampNeg (σ.1 26)) p1).1 26)) (p2 / (10 : Int32))) 23 (Int32.toNatClampNeg ((ma (ma σ 21 (Int32.toNatClampNeg (σ.1 26)) p1) 22 (Int32.toNatClampNeg ((ma σ 21 (Int32.toNatClampNeg (σ.1 26)) p1).1 26)) (p2 / (10 : Int32))).1 26)) (p2 - p2 / (10 : Int32) * (10 : Int32))).1 26)) p3).1 26)) p4).1 26) + (1 : Int32))))) else ((-2 : Int32), σ))))))))
set_option maxRecDepth 100000 in
set_option maxHeartbeats 1000000 in
theorem ok_X10_sale {g : GC} {E : ME} {d : Nat} (hE : MEok E) (hd : 2 ≤ d) (σ : MSt) (p1 : Int32) (p2 : Int32) (p3 : Int32) (p4 : Int32) (h0 : MInv σ) : MC g E d yX10_sale cX10_sale 6 (some FieldType.int) [.int p1, .int p2, .int p3, .int p4] (fun v σ' => v = some (.int (f_X10_sale σ p1 p2 p3 p4).1) ∧ σ' = (f_X10_sale σ p1 p2 p3 p4).2) σ := by
  refine AM.of2 (own := RX10) (nm := "sale") (L0 := [(0, .ref E.2.2), (1, .int p1), (2, .int p2), (3, .int p3), (4, .int p4)]) (by decide) rfl rfl (Nat.le_of_ble_eq_true rfl) rfl ?_
  refine r_aload_n dX10_sale_0 rfl ?_
  refine r_iload_n dX10_sale_1 rfl ?_
  refine m_callW dX10_sale_2 mf_X10_isBottle ml_RX10_186 (ok_X10_isBottle (d := d - 1) hE (by omega) _ _) rfl rfl rfl (Nat.le_of_ble_eq_true rfl) (by omega) ?_
  refine r_if_eq (tgt := 56) dX10_sale_5 (by decide) (fun c1 => ?_) (fun c1 => ?_)
  · refine r_bipush (v := (-2 : Int32)) dX10_sale_56 (by decide) ?_
    refine r_iret dX10_sale_58 rfl rfl ?_
    exact ⟨_, rfl, by rw [f_X10_sale, if_pos c1], by rw [f_X10_sale, if_pos c1]⟩
  · refine r_iload_n dX10_sale_8 rfl ?_
    refine r_i2l dX10_sale_9 ?_
    refine r_lconst (v := (0 : Int64)) dX10_sale_10 (by decide) ?_
    refine r_ldc2 dX10_sale_11 kc_RX10_155 ?_
    refine m_callS dX10_sale_14 mf_X10_in ml_RX10_149 (ok_X10_in (d := d - 1) (by omega) _ _ _) rfl rfl (Nat.le_of_ble_eq_true rfl) (by omega) ?_
    refine r_if_eq (tgt := 56) dX10_sale_17 (by decide) (fun c2 => ?_) (fun c2 => ?_)
    · refine r_bipush (v := (-2 : Int32)) dX10_sale_56 (by decide) ?_
      refine r_iret dX10_sale_58 rfl rfl ?_
      exact ⟨_, rfl, by rw [f_X10_sale, if_neg c1, if_pos c2], by rw [f_X10_sale, if_neg c1, if_pos c2]⟩
    · refine r_iload_n dX10_sale_20 rfl ?_
      refine r_bipush (v := (10 : Int32)) dX10_sale_21 (by decide) ?_
      refine r_idiv dX10_sale_23 (by decide) ?_
      refine r_iload_n dX10_sale_24 rfl ?_
      refine r_bipush (v := (10 : Int32)) dX10_sale_25 (by decide) ?_
      refine r_irem dX10_sale_27 (by decide) ?_
      refine r_icmp_eq (tgt := 56) dX10_sale_28 (by decide) (fun c3 => ?_) (fun c3 => ?_)
      · refine r_bipush (v := (-2 : Int32)) dX10_sale_56 (by decide) ?_
        refine r_iret dX10_sale_58 rfl rfl ?_
        exact ⟨_, rfl, by rw [f_X10_sale, if_neg c1, if_neg c2, if_pos c3], by rw [f_X10_sale, if_neg c1, if_neg c2, if_pos c3]⟩
      · refine r_iload_n dX10_sale_31 rfl ?_
        refine r_i2l dX10_sale_32 ?_
        refine r_lconst (v := (0 : Int64)) dX10_sale_33 (by decide) ?_
        refine r_ldc2 dX10_sale_34 kc_RX10_230 ?_
        refine m_callS dX10_sale_37 mf_X10_in ml_RX10_149 (ok_X10_in (d := d - 1) (by omega) _ _ _) rfl rfl (Nat.le_of_ble_eq_true rfl) (by omega) ?_
        refine r_if_eq (tgt := 56) dX10_sale_40 (by decide) (fun c4 => ?_) (fun c4 => ?_)
        · refine r_bipush (v := (-2 : Int32)) dX10_sale_56 (by decide) ?_
          refine r_iret dX10_sale_58 rfl rfl ?_
          exact ⟨_, rfl, by rw [f_X10_sale, if_neg c1, if_neg c2, if_neg c3, if_pos c4], by rw [f_X10_sale, if_neg c1, if_neg c2, if_neg c3, if_pos c4]⟩
        · refine r_iload dX10_sale_43 rfl ?_
          refine r_i2l dX10_sale_45 ?_
          refine r_lconst (v := (0 : Int64)) dX10_sale_46 (by decide) ?_
          refine r_ldc2 dX10_sale_47 kc_RX10_155 ?_
          refine m_callS dX10_sale_50 mf_X10_in ml_RX10_149 (ok_X10_in (d := d - 1) (by omega) _ _ _) rfl rfl (Nat.le_of_ble_eq_true rfl) (by omega) ?_
          refine r_if_ne (tgt := 59) dX10_sale_53 (by decide) (fun c5 => ?_) (fun c5 => ?_)
          · refine r_aload_n dX10_sale_59 rfl ?_
            refine r_iload_n dX10_sale_60 rfl ?_
            refine r_aload_n dX10_sale_61 rfl ?_
            refine m_get dX10_sale_62 fl_RX10_232 rfl ?_
            refine m_callW dX10_sale_65 mf_X10_lastOf ml_RX10_235 (ok_X10_lastOf (d := d - 1) hE (by omega) _ _ _ (by with_reducible first | exact h0.ns | exact last_in h0.ns (by assumption))) rfl rfl rfl (Nat.le_of_ble_eq_true rfl) (by omega) ?_
            refine r_istore dX10_sale_68 (by decide) ?_
            refine r_iload dX10_sale_70 rfl ?_
            refine r_iconst (v := (-1 : Int32)) dX10_sale_72 (by decide) ?_
            refine r_icmp_eq (tgt := 91) dX10_sale_73 (by decide) (fun c6 => ?_) (fun c6 => ?_)
            · refine r_aload_n dX10_sale_91 rfl ?_
              refine m_get dX10_sale_92 fl_RX10_232 rfl ?_
              refine r_bipush (v := (40 : Int32)) dX10_sale_95 (by decide) ?_
              refine r_icmp_ne (tgt := 103) dX10_sale_97 (by decide) (fun c7 => ?_) (fun c7 => ?_)
              · refine r_aload_n dX10_sale_103 rfl ?_
                refine m_get dX10_sale_104 fl_RX10_59 rfl ?_
                refine r_aload_n dX10_sale_107 rfl ?_
                refine m_get dX10_sale_108 fl_RX10_232 rfl ?_
                refine r_iload_n dX10_sale_111 rfl ?_
                refine m_iast (k := 21) (N := 40) hE (by decide) rfl rfl dX10_sale_112 (by exact ne_ct (by decide) h0.ns (by with_reducible assumption : ¬ σ.1 26 = 40)) ?_
                refine r_aload_n dX10_sale_113 rfl ?_
                refine m_get dX10_sale_114 fl_RX10_62 rfl ?_
                refine r_aload_n dX10_sale_117 rfl ?_
                refine m_get dX10_sale_118 fl_RX10_232 rfl ?_
                refine r_iload_n dX10_sale_121 rfl ?_
                refine r_bipush (v := (10 : Int32)) dX10_sale_122 (by decide) ?_
                refine r_idiv dX10_sale_124 (by decide) ?_
                refine m_iast (k := 22) (N := 40) hE (by decide) rfl rfl dX10_sale_125 (by exact ne_ct (by decide) h0.ns (by with_reducible assumption : ¬ σ.1 26 = 40)) ?_
                refine r_aload_n dX10_sale_126 rfl ?_
                refine m_get dX10_sale_127 fl_RX10_65 rfl ?_
                refine r_aload_n dX10_sale_130 rfl ?_
                refine m_get dX10_sale_131 fl_RX10_232 rfl ?_
                refine r_iload_n dX10_sale_134 rfl ?_
                refine r_bipush (v := (10 : Int32)) dX10_sale_135 (by decide) ?_
                refine r_irem dX10_sale_137 (by decide) ?_
                refine m_iast (k := 23) (N := 40) hE (by decide) rfl rfl dX10_sale_138 (by exact ne_ct (by decide) h0.ns (by with_reducible assumption : ¬ σ.1 26 = 40)) ?_
                refine r_aload_n dX10_sale_139 rfl ?_
                refine m_get dX10_sale_140 fl_RX10_68 rfl ?_
                refine r_aload_n dX10_sale_143 rfl ?_
                refine m_get dX10_sale_144 fl_RX10_232 rfl ?_
                refine r_iload_n dX10_sale_147 rfl ?_
                refine m_iast (k := 24) (N := 40) hE (by decide) rfl rfl dX10_sale_148 (by exact ne_ct (by decide) h0.ns (by with_reducible assumption : ¬ σ.1 26 = 40)) ?_
                refine r_aload_n dX10_sale_149 rfl ?_
                refine m_get dX10_sale_150 fl_RX10_71 rfl ?_
                refine r_aload_n dX10_sale_153 rfl ?_
                refine m_get dX10_sale_154 fl_RX10_232 rfl ?_
                refine r_iload dX10_sale_157 rfl ?_
                refine m_iast (k := 25) (N := 40) hE (by decide) rfl rfl dX10_sale_159 (by exact ne_ct (by decide) h0.ns (by with_reducible assumption : ¬ σ.1 26 = 40)) ?_
                refine r_aload_n dX10_sale_160 rfl ?_
                refine r_dup dX10_sale_161 rfl ?_
                refine m_get dX10_sale_162 fl_RX10_232 rfl ?_
                refine r_iconst (v := (1 : Int32)) dX10_sale_165 (by decide) ?_
                refine r_iadd dX10_sale_166 ?_
                refine m_put hE dX10_sale_167 fp_RX10_232 rfl rfl rfl (by decide) ?_
                refine r_aload_n dX10_sale_170 rfl ?_
                refine m_get dX10_sale_171 fl_RX10_232 rfl ?_
                refine r_iconst (v := (1 : Int32)) dX10_sale_174 (by decide) ?_
                refine r_isub dX10_sale_175 ?_
                refine r_iret dX10_sale_176 rfl rfl ?_
                exact ⟨_, rfl, by rw [f_X10_sale, if_neg c1, if_neg c2, if_neg c3, if_neg c4, if_neg c5, if_pos c6, if_neg c7], by rw [f_X10_sale, if_neg c1, if_neg c2, if_neg c3, if_neg c4, if_neg c5, if_pos c6, if_neg c7]⟩
              · refine r_bipush (v := (-4 : Int32)) dX10_sale_100 (by decide) ?_
                refine r_iret dX10_sale_102 rfl rfl ?_
                exact ⟨_, rfl, by rw [f_X10_sale, if_neg c1, if_neg c2, if_neg c3, if_neg c4, if_neg c5, if_pos c6, if_pos c7], by rw [f_X10_sale, if_neg c1, if_neg c2, if_neg c3, if_neg c4, if_neg c5, if_pos c6, if_pos c7]⟩
            · refine r_iload dX10_sale_76 rfl ?_
              refine r_aload_n dX10_sale_78 rfl ?_
              refine m_get dX10_sale_79 fl_RX10_71 rfl ?_
              refine r_iload dX10_sale_82 rfl ?_
              refine m_iald (k := 25) (N := 40) hE (by decide) rfl rfl dX10_sale_84 (by with_reducible first | exact h0.ns | exact last_in h0.ns (by assumption)) ?_
              refine r_icmp_ge (tgt := 91) dX10_sale_85 (by decide) (fun c8 => ?_) (fun c8 => ?_)
              · refine r_aload_n dX10_sale_91 rfl ?_
                refine m_get dX10_sale_92 fl_RX10_232 rfl ?_
                refine r_bipush (v := (40 : Int32)) dX10_sale_95 (by decide) ?_
                refine r_icmp_ne (tgt := 103) dX10_sale_97 (by decide) (fun c9 => ?_) (fun c9 => ?_)
                · refine r_aload_n dX10_sale_103 rfl ?_
                  refine m_get dX10_sale_104 fl_RX10_59 rfl ?_
                  refine r_aload_n dX10_sale_107 rfl ?_
                  refine m_get dX10_sale_108 fl_RX10_232 rfl ?_
                  refine r_iload_n dX10_sale_111 rfl ?_
                  refine m_iast (k := 21) (N := 40) hE (by decide) rfl rfl dX10_sale_112 (by exact ne_ct (by decide) h0.ns (by with_reducible assumption : ¬ σ.1 26 = 40)) ?_
                  refine r_aload_n dX10_sale_113 rfl ?_
                  refine m_get dX10_sale_114 fl_RX10_62 rfl ?_
                  refine r_aload_n dX10_sale_117 rfl ?_
                  refine m_get dX10_sale_118 fl_RX10_232 rfl ?_
                  refine r_iload_n dX10_sale_121 rfl ?_
                  refine r_bipush (v := (10 : Int32)) dX10_sale_122 (by decide) ?_
                  refine r_idiv dX10_sale_124 (by decide) ?_
                  refine m_iast (k := 22) (N := 40) hE (by decide) rfl rfl dX10_sale_125 (by exact ne_ct (by decide) h0.ns (by with_reducible assumption : ¬ σ.1 26 = 40)) ?_
                  refine r_aload_n dX10_sale_126 rfl ?_
                  refine m_get dX10_sale_127 fl_RX10_65 rfl ?_
                  refine r_aload_n dX10_sale_130 rfl ?_
                  refine m_get dX10_sale_131 fl_RX10_232 rfl ?_
                  refine r_iload_n dX10_sale_134 rfl ?_
                  refine r_bipush (v := (10 : Int32)) dX10_sale_135 (by decide) ?_
                  refine r_irem dX10_sale_137 (by decide) ?_
                  refine m_iast (k := 23) (N := 40) hE (by decide) rfl rfl dX10_sale_138 (by exact ne_ct (by decide) h0.ns (by with_reducible assumption : ¬ σ.1 26 = 40)) ?_
                  refine r_aload_n dX10_sale_139 rfl ?_
                  refine m_get dX10_sale_140 fl_RX10_68 rfl ?_
                  refine r_aload_n dX10_sale_143 rfl ?_
                  refine m_get dX10_sale_144 fl_RX10_232 rfl ?_
                  refine r_iload_n dX10_sale_147 rfl ?_
                  refine m_iast (k := 24) (N := 40) hE (by decide) rfl rfl dX10_sale_148 (by exact ne_ct (by decide) h0.ns (by with_reducible assumption : ¬ σ.1 26 = 40)) ?_
                  refine r_aload_n dX10_sale_149 rfl ?_
                  refine m_get dX10_sale_150 fl_RX10_71 rfl ?_
                  refine r_aload_n dX10_sale_153 rfl ?_
                  refine m_get dX10_sale_154 fl_RX10_232 rfl ?_
                  refine r_iload dX10_sale_157 rfl ?_
                  refine m_iast (k := 25) (N := 40) hE (by decide) rfl rfl dX10_sale_159 (by exact ne_ct (by decide) h0.ns (by with_reducible assumption : ¬ σ.1 26 = 40)) ?_
                  refine r_aload_n dX10_sale_160 rfl ?_
                  refine r_dup dX10_sale_161 rfl ?_
                  refine m_get dX10_sale_162 fl_RX10_232 rfl ?_
                  refine r_iconst (v := (1 : Int32)) dX10_sale_165 (by decide) ?_
                  refine r_iadd dX10_sale_166 ?_
                  refine m_put hE dX10_sale_167 fp_RX10_232 rfl rfl rfl (by decide) ?_
                  refine r_aload_n dX10_sale_170 rfl ?_
                  refine m_get dX10_sale_171 fl_RX10_232 rfl ?_
                  refine r_iconst (v := (1 : Int32)) dX10_sale_174 (by decide) ?_
                  refine r_isub dX10_sale_175 ?_
                  refine r_iret dX10_sale_176 rfl rfl ?_
                  exact ⟨_, rfl, by rw [f_X10_sale, if_neg c1, if_neg c2, if_neg c3, if_neg c4, if_neg c5, if_neg c6, if_pos c8, if_neg c9], by rw [f_X10_sale, if_neg c1, if_neg c2, if_neg c3, if_neg c4, if_neg c5, if_neg c6, if_pos c8, if_neg c9]⟩
                · refine r_bipush (v := (-4 : Int32)) dX10_sale_100 (by decide) ?_
                  refine r_iret dX10_sale_102 rfl rfl ?_
                  exact ⟨_, rfl, by rw [f_X10_sale, if_neg c1, if_neg c2, if_neg c3, if_neg c4, if_neg c5, if_neg c6, if_pos c8, if_pos c9], by rw [f_X10_sale, if_neg c1, if_neg c2, if_neg c3, if_neg c4, if_neg c5, if_neg c6, if_pos c8, if_pos c9]⟩
              · refine r_bipush (v := (-2 : Int32)) dX10_sale_88 (by decide) ?_
                refine r_iret dX10_sale_90 rfl rfl ?_
                exact ⟨_, rfl, by rw [f_X10_sale, if_neg c1, if_neg c2, if_neg c3, if_neg c4, if_neg c5, if_neg c6, if_neg c8], by rw [f_X10_sale, if_neg c1, if_neg c2, if_neg c3, if_neg c4, if_neg c5, if_neg c6, if_neg c8]⟩
          · refine r_bipush (v := (-2 : Int32)) dX10_sale_56 (by decide) ?_
            refine r_iret dX10_sale_58 rfl rfl ?_
            exact ⟨_, rfl, by rw [f_X10_sale, if_neg c1, if_neg c2, if_neg c3, if_neg c4, if_pos c5], by rw [f_X10_sale, if_neg c1, if_neg c2, if_neg c3, if_neg c4, if_pos c5]⟩

def f_X10_force (σ : MSt) (p1 : Int32) : Int32 × MSt := (if (f_X10_in (Int32.toInt64 p1) (0 : Int64) (Int32.toInt64 ((σ.1 3) - (1 : Int32)))) = 0 then ((-2 : Int32), σ) else ((σ.1 4), (mp σ 4 p1)))
set_option maxRecDepth 100000 in
set_option maxHeartbeats 1000000 in
theorem ok_X10_force {g : GC} {E : ME} {d : Nat} (hE : MEok E) (hd : 1 ≤ d) (σ : MSt) (p1 : Int32) (h0 : MInv σ) : MC g E d yX10_force cX10_force 3 (some FieldType.int) [.int p1] (fun v σ' => v = some (.int (f_X10_force σ p1).1) ∧ σ' = (f_X10_force σ p1).2) σ := by
  refine AM.of2 (own := RX10) (nm := "force") (L0 := [(0, .ref E.2.2), (1, .int p1)]) (by decide) rfl rfl (Nat.le_of_ble_eq_true rfl) rfl ?_
  refine r_iload_n dX10_force_0 rfl ?_
  refine r_i2l dX10_force_1 ?_
  refine r_lconst (v := (0 : Int64)) dX10_force_2 (by decide) ?_
  refine r_aload_n dX10_force_3 rfl ?_
  refine m_get dX10_force_4 fl_RX10_141 rfl ?_
  refine r_iconst (v := (1 : Int32)) dX10_force_7 (by decide) ?_
  refine r_isub dX10_force_8 ?_
  refine r_i2l dX10_force_9 ?_
  refine m_callS dX10_force_10 mf_X10_in ml_RX10_149 (ok_X10_in (d := d - 1) (by omega) _ _ _) rfl rfl (Nat.le_of_ble_eq_true rfl) (by omega) ?_
  refine r_if_ne (tgt := 19) dX10_force_13 (by decide) (fun c1 => ?_) (fun c1 => ?_)
  · refine r_aload_n dX10_force_19 rfl ?_
    refine m_get dX10_force_20 fl_RX10_382 rfl ?_
    refine r_istore_n dX10_force_23 (by decide) ?_
    refine r_aload_n dX10_force_24 rfl ?_
    refine r_iload_n dX10_force_25 rfl ?_
    refine m_put hE dX10_force_26 fp_RX10_382 rfl rfl rfl (by decide) ?_
    refine r_iload_n dX10_force_29 rfl ?_
    refine r_iret dX10_force_30 rfl rfl ?_
    exact ⟨_, rfl, by rw [f_X10_force, if_neg c1], by rw [f_X10_force, if_neg c1]⟩
  · refine r_bipush (v := (-2 : Int32)) dX10_force_16 (by decide) ?_
    refine r_iret dX10_force_18 rfl rfl ?_
    exact ⟨_, rfl, by rw [f_X10_force, if_pos c1], by rw [f_X10_force, if_pos c1]⟩

def f_X10_said (σ : MSt) (p1 : Int32) (p2 : Int32) (p3 : Int32) (p4 : Int32) : Int32 × MSt := (if (f_X10_isTongue p1) = 0 then ((-2 : Int32), σ) else (if (f_X10_isBottle σ p2) = 0 then ((-2 : Int32), σ) else (if (f_X10_in (Int32.toInt64 p3) (0 : Int64) (1 : Int64)) = 0 then ((-2 : Int32), σ) else (if (f_X10_isWine σ p4) = 0 then ((-2 : Int32), σ) else (if (σ.2.2 42 (Int32.toNatClampNeg p1)) = (12 : Int32) then ((-4 : Int32), σ) else (((ma (ma (ma (ma σ 43 (Int32.toNatClampNeg (((12 : Int32) * p1) + (σ.2.2 42 (Int32.toNatClampNeg p1)))) p2) 44 (Int32.toNatClampNeg (((12 : Int32) * p1) + ((ma σ 43 (Int32.toNatClampNeg (((12 : Int32) * p1) + (σ.2.2 42 (Int32.toNatClampNeg p1)))) p2).2.2 42 (Int32.toNatClampNeg p1)))) p3) 45 (Int32.toNatClampNeg (((12 : Int32) * p1) + ((ma (ma σ 43 (Int32.toNatClampNeg (((12 : Int32) * p1) + (σ.2.2 42 (Int32.toNatClampNeg p1)))) p2) 44 (Int32.toNatClampNeg (((12 : Int32) * p1) + ((ma σ 43 (Int32.toNatClampNeg (((12 : Int32) * p1) + (σ.2.2 42 (Int32.toNatClampNeg p1)))) p2).2.2 42 (Int32.toNatClampNeg p1)))) p3).2.2 42 (Int32.toNatClampNeg p1)))) p4) 42 (Int32.toNatClampNeg p1) (((ma (ma (ma σ 43 (Int32.toNatClampNeg (((12 : Int32) * p1) + (σ.2.2 42 (Int32.toNatClampNeg p1)))) p2) 44 (Int32.toNatClampNeg (((12 : Int32) * p1) + ((ma σ 43 (Int32.toNatClampNeg (((12 : Int32) * p1) + (σ.2.2 42 (Int32.toNatClampNeg p1)))) p2).2.2 42 (Int32.toNatClampNeg p1)))) p3) 45 (Int32.toNatClampNeg (((12 : Int32) * p1) + ((ma (ma σ 43 (Int32.toNatClampNeg (((12 : Int32) * p1) + (σ.2.2 42 (Int32.toNatClampNeg p1)))) p2) 44 (Int32.toNatClampNeg (((12 : Int32) * p1) + ((ma σ 43 (Int32.toNatClampNeg (((12 : Int32) * p1) + (σ.2.2 42 (Int32.toNatClampNeg p1)))) p2).2.2 42 (Int32.toNatClampNeg p1)))) p3).2.2 42 (Int32.toNatClampNeg p1)))) p4).2.2 42 (Int32.toNatClampNeg p1)) + (1 : Int32))).2.2 42 (Int32.toNatClampNeg p1)), (ma (ma (ma (ma σ 43 (Int32.toNatClampNeg (((12 : Int32) * p1) + (σ.2.2 42 (Int32.toNatClampNeg p1)))) p2) 44 (Int32.toNatClampNeg (((12 : Int32) * p1) + ((ma σ 43 (Int32.toNatClampNeg (((12 : Int32) * p1) + (σ.2.2 42 (Int32.toNatClampNeg p1)))) p2).2.2 42 (Int32.toNatClampNeg p1)))) p3) 45 (Int32.toNatClampNeg (((12 : Int32) * p1) + ((ma (ma σ 43 (Int32.toNatClampNeg (((12 : Int32) * p1) + (σ.2.2 42 (Int32.toNatClampNeg p1)))) p2) 44 (Int32.toNatClampNeg (((12 : Int32) * p1) + ((ma σ 43 (Int32.toNatClampNeg (((12 : Int32) * p1) + (σ.2.2 42 (Int32.toNatClampNeg p1)))) p2).2.2 42 (Int32.toNatClampNeg p1)))) p3).2.2 42 (Int32.toNatClampNeg p1)))) p4) 42 (Int32.toNatClampNeg p1) (((ma (ma (ma σ 43 (Int32.toNatClampNeg (((12 : Int32) * p1) + (σ.2.2 42 (Int32.toNatClampNeg p1)))) p2) 44 (Int32.toNatClampNeg (((12 : Int32) * p1) + ((ma σ 43 (Int32.toNatClampNeg (((12 : Int32) * p1) + (σ.2.2 42 (Int32.toNatClampNeg p1)))) p2).2.2 42 (Int32.toNatClampNeg p1)))) p3) 45 (Int32.toNatClampNeg (((12 : Int32) * p1) + ((ma (ma σ 43 (Int32.toNatClampNeg (((12 : Int32) * p1) + (σ.2.2 42 (Int32.toNatClampNeg p1)))) p2) 44 (Int32.toNatClampNeg (((12 : Int32) * p1) + ((ma σ 43 (Int32.toNatClampNeg (((12 : Int32) * p1) + (σ.2.2 42 (Int32.toNatClampNeg p1)))) p2).2.2 42 (Int32.toNatClampNeg p1)))) p3).2.2 42 (Int32.toNatClampNeg p1)))) p4).2.2 42 (Int32.toNatClampNeg p1)) + (1 : Int32)))))))))
set_option maxRecDepth 100000 in
set_option maxHeartbeats 1000000 in
theorem ok_X10_said {g : GC} {E : ME} {d : Nat} (hE : MEok E) (hd : 2 ≤ d) (σ : MSt) (p1 : Int32) (p2 : Int32) (p3 : Int32) (p4 : Int32) (h0 : MInv σ) : MC g E d yX10_said cX10_said 5 (some FieldType.int) [.int p1, .int p2, .int p3, .int p4] (fun v σ' => v = some (.int (f_X10_said σ p1 p2 p3 p4).1) ∧ σ' = (f_X10_said σ p1 p2 p3 p4).2) σ := by
  refine AM.of2 (own := RX10) (nm := "said") (L0 := [(0, .ref E.2.2), (1, .int p1), (2, .int p2), (3, .int p3), (4, .int p4)]) (by decide) rfl rfl (Nat.le_of_ble_eq_true rfl) rfl ?_
  refine r_iload_n dX10_said_0 rfl ?_
  refine m_callS dX10_said_1 mf_X10_isTongue ml_RX10_419 (ok_X10_isTongue (d := d - 1) (by omega) _) rfl rfl (Nat.le_of_ble_eq_true rfl) (by omega) ?_
  refine r_if_eq (tgt := 34) dX10_said_4 (by decide) (fun c1 => ?_) (fun c1 => ?_)
  · refine r_bipush (v := (-2 : Int32)) dX10_said_34 (by decide) ?_
    refine r_iret dX10_said_36 rfl rfl ?_
    exact ⟨_, rfl, by rw [f_X10_said, if_pos c1], by rw [f_X10_said, if_pos c1]⟩
  · refine r_aload_n dX10_said_7 rfl ?_
    refine r_iload_n dX10_said_8 rfl ?_
    refine m_callW dX10_said_9 mf_X10_isBottle ml_RX10_186 (ok_X10_isBottle (d := d - 1) hE (by omega) _ _) rfl rfl rfl (Nat.le_of_ble_eq_true rfl) (by omega) ?_
    refine r_if_eq (tgt := 34) dX10_said_12 (by decide) (fun c2 => ?_) (fun c2 => ?_)
    · refine r_bipush (v := (-2 : Int32)) dX10_said_34 (by decide) ?_
      refine r_iret dX10_said_36 rfl rfl ?_
      exact ⟨_, rfl, by rw [f_X10_said, if_neg c1, if_pos c2], by rw [f_X10_said, if_neg c1, if_pos c2]⟩
    · refine r_iload_n dX10_said_15 rfl ?_
      refine r_i2l dX10_said_16 ?_
      refine r_lconst (v := (0 : Int64)) dX10_said_17 (by decide) ?_
      refine r_lconst (v := (1 : Int64)) dX10_said_18 (by decide) ?_
      refine m_callS dX10_said_19 mf_X10_in ml_RX10_149 (ok_X10_in (d := d - 1) (by omega) _ _ _) rfl rfl (Nat.le_of_ble_eq_true rfl) (by omega) ?_
      refine r_if_eq (tgt := 34) dX10_said_22 (by decide) (fun c3 => ?_) (fun c3 => ?_)
      · refine r_bipush (v := (-2 : Int32)) dX10_said_34 (by decide) ?_
        refine r_iret dX10_said_36 rfl rfl ?_
        exact ⟨_, rfl, by rw [f_X10_said, if_neg c1, if_neg c2, if_pos c3], by rw [f_X10_said, if_neg c1, if_neg c2, if_pos c3]⟩
      · refine r_aload_n dX10_said_25 rfl ?_
        refine r_iload dX10_said_26 rfl ?_
        refine m_callW dX10_said_28 mf_X10_isWine ml_RX10_165 (ok_X10_isWine (d := d - 1) hE (by omega) _ _) rfl rfl rfl (Nat.le_of_ble_eq_true rfl) (by omega) ?_
        refine r_if_ne (tgt := 37) dX10_said_31 (by decide) (fun c4 => ?_) (fun c4 => ?_)
        · refine r_aload_n dX10_said_37 rfl ?_
          refine m_get dX10_said_38 fl_RX10_74 rfl ?_
          refine r_iload_n dX10_said_41 rfl ?_
          refine m_iald (k := 42) (N := 6) hE (by decide) rfl rfl dX10_said_42 (by exact isTongue_in (by with_reducible assumption)) ?_
          refine r_bipush (v := (12 : Int32)) dX10_said_43 (by decide) ?_
          refine r_icmp_ne (tgt := 51) dX10_said_45 (by decide) (fun c5 => ?_) (fun c5 => ?_)
          · refine r_aload_n dX10_said_51 rfl ?_
            refine m_get dX10_said_52 fl_RX10_77 rfl ?_
            refine r_bipush (v := (12 : Int32)) dX10_said_55 (by decide) ?_
            refine r_iload_n dX10_said_57 rfl ?_
            refine r_imul dX10_said_58 ?_
            refine r_aload_n dX10_said_59 rfl ?_
            refine m_get dX10_said_60 fl_RX10_74 rfl ?_
            refine r_iload_n dX10_said_63 rfl ?_
            refine m_iald (k := 42) (N := 6) hE (by decide) rfl rfl dX10_said_64 (by exact isTongue_in (by with_reducible assumption)) ?_
            refine r_iadd dX10_said_65 ?_
            refine r_iload_n dX10_said_66 rfl ?_
            refine m_iast (k := 43) (N := 72) hE (by decide) rfl rfl dX10_said_67 (by exact said_in h0 (isTongue_in (by with_reducible assumption)) (by with_reducible assumption)) ?_
            refine r_aload_n dX10_said_68 rfl ?_
            refine m_get dX10_said_69 fl_RX10_80 rfl ?_
            refine r_bipush (v := (12 : Int32)) dX10_said_72 (by decide) ?_
            refine r_iload_n dX10_said_74 rfl ?_
            refine r_imul dX10_said_75 ?_
            refine r_aload_n dX10_said_76 rfl ?_
            refine m_get dX10_said_77 fl_RX10_74 rfl ?_
            refine r_iload_n dX10_said_80 rfl ?_
            refine m_iald (k := 42) (N := 6) hE (by decide) rfl rfl dX10_said_81 (by exact isTongue_in (by with_reducible assumption)) ?_
            refine r_iadd dX10_said_82 ?_
            refine r_iload_n dX10_said_83 rfl ?_
            refine m_iast (k := 44) (N := 72) hE (by decide) rfl rfl dX10_said_84 (by exact said_in h0 (isTongue_in (by with_reducible assumption)) (by with_reducible assumption)) ?_
            refine r_aload_n dX10_said_85 rfl ?_
            refine m_get dX10_said_86 fl_RX10_83 rfl ?_
            refine r_bipush (v := (12 : Int32)) dX10_said_89 (by decide) ?_
            refine r_iload_n dX10_said_91 rfl ?_
            refine r_imul dX10_said_92 ?_
            refine r_aload_n dX10_said_93 rfl ?_
            refine m_get dX10_said_94 fl_RX10_74 rfl ?_
            refine r_iload_n dX10_said_97 rfl ?_
            refine m_iald (k := 42) (N := 6) hE (by decide) rfl rfl dX10_said_98 (by exact isTongue_in (by with_reducible assumption)) ?_
            refine r_iadd dX10_said_99 ?_
            refine r_iload dX10_said_100 rfl ?_
            refine m_iast (k := 45) (N := 72) hE (by decide) rfl rfl dX10_said_102 (by exact said_in h0 (isTongue_in (by with_reducible assumption)) (by with_reducible assumption)) ?_
            refine r_aload_n dX10_said_103 rfl ?_
            refine m_get dX10_said_104 fl_RX10_74 rfl ?_
            refine r_iload_n dX10_said_107 rfl ?_
            refine r_dup2 dX10_said_108 rfl rfl ?_
            refine m_iald (k := 42) (N := 6) hE (by decide) rfl rfl dX10_said_109 (by exact isTongue_in (by with_reducible assumption)) ?_
            refine r_iconst (v := (1 : Int32)) dX10_said_110 (by decide) ?_
            refine r_iadd dX10_said_111 ?_
            refine m_iast (k := 42) (N := 6) hE (by decide) rfl rfl dX10_said_112 (by exact isTongue_in (by with_reducible assumption)) ?_
            refine r_aload_n dX10_said_113 rfl ?_
            refine m_get dX10_said_114 fl_RX10_74 rfl ?_
            refine r_iload_n dX10_said_117 rfl ?_
            refine m_iald (k := 42) (N := 6) hE (by decide) rfl rfl dX10_said_118 (by exact isTongue_in (by with_reducible assumption)) ?_
            refine r_iret dX10_said_119 rfl rfl ?_
            exact ⟨_, rfl, by rw [f_X10_said, if_neg c1, if_neg c2, if_neg c3, if_neg c4, if_neg c5], by rw [f_X10_said, if_neg c1, if_neg c2, if_neg c3, if_neg c4, if_neg c5]⟩
          · refine r_bipush (v := (-4 : Int32)) dX10_said_48 (by decide) ?_
            refine r_iret dX10_said_50 rfl rfl ?_
            exact ⟨_, rfl, by rw [f_X10_said, if_neg c1, if_neg c2, if_neg c3, if_neg c4, if_pos c5], by rw [f_X10_said, if_neg c1, if_neg c2, if_neg c3, if_neg c4, if_pos c5]⟩
        · refine r_bipush (v := (-2 : Int32)) dX10_said_34 (by decide) ?_
          refine r_iret dX10_said_36 rfl rfl ?_
          exact ⟨_, rfl, by rw [f_X10_said, if_neg c1, if_neg c2, if_neg c3, if_pos c4], by rw [f_X10_said, if_neg c1, if_neg c2, if_neg c3, if_pos c4]⟩
