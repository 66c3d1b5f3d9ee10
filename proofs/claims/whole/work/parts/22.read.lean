
def txt (σ : MSt) (x : Nat) : TB := (fun i => σ.2.2 1 (160 * x + i), (σ.2.2 2 x).toNatClampNeg)
def rd0 (σ : MSt) (x : Nat) : MSt := mp (mp σ 27 (nI (160 * x))) 28 (σ.2.2 2 x)
/-- only what reading uses has changed -/
def Cl (σ σ' : MSt) : Prop := σ'.2.2 = σ.2.2 ∧ ∀ j, j < 27 ∨ 35 < j → σ'.1 j = σ.1 j
def Kr (σ : MSt) (x : Nat) (wh : Int32) (v : Option Value) (σ' : MSt) : Prop := match textG (txt σ x) with
  | .ok r => v = some (.int (if wh = 0 then r.1.2 (env σ) else if wh = 1 then r.2.1.2 (env σ) else r.2.2.2 (env σ))) ∧ Cl σ σ' ∧ σ'.1 34 = 0
  | .error y => (∃ z, v = some (.int z)) ∧ Cl σ σ' ∧ σ'.1 34 = 1 ∧ σ'.1 35 = nI y
theorem rd_TX {σ : MSt} (h : MInv σ) {x : Nat} (hx : x < 6) : TX (rd0 σ x) (txt σ x) x := by
  obtain ⟨k, hk, e⟩ := h.ts x
  have e2 : (txt σ x).2 = k := by show (σ.2.2 2 x).toNatClampNeg = k; rw [e, nI_clamp (by omega)]
  refine ⟨rfl, hx, ?_, by rw [e2]; exact hk, fun i _ => rfl, fun i _ => h.tx _⟩
  rw [e2]
  exact e
theorem rd_env (σ : MSt) (x : Nat) : env (rd0 σ x) = env σ := by
  funext i
  show upd (upd σ.1 27 _) 28 _ (36 + i) = σ.1 (36 + i)
  unfold upd
  rw [if_neg (by omega), if_neg (by omega)]
theorem rd_Cl {σ : MSt} {x : Nat} {T : Tk} {w : Int64} {o : Nat} : Cl σ (psS (rd0 σ x) T w o) := by
  refine ⟨rfl, fun j hj => ?_⟩
  simp only [psS, rd0, mp, upd]
  rw [if_neg (by omega), if_neg (by omega), if_neg (by omega), if_neg (by omega), if_neg (by omega), if_neg (by omega), if_neg (by omega)]
theorem er_Cl {σ σ' : MSt} {x y : Nat} (h : Er (rd0 σ x) y σ') : Cl σ σ' := by
  refine ⟨h.1, fun j hj => ?_⟩
  rw [h.2.2.2 j (by omega) (by omega) (by omega) (by omega) (by omega) (by omega)]
  simp only [rd0, mp, upd]
  rw [if_neg (by omega), if_neg (by omega)]
theorem rd_first {σ : MSt} (h : MInv σ) {x : Nat} (hx : x < 6) : OkS (txt σ x) (rd0 σ x) 0 0 (f_X10_next (mp (mp (mp (mp (mp σ 27 (nI (160 * x))) 28 (σ.2.2 2 x)) 32 0) 33 0) 34 0)) := by
  have hT := rd_TX h hx
  have hT2 : TX (mp (mp (mp (mp (mp σ 27 (nI (160 * x))) 28 (σ.2.2 2 x)) 32 0) 33 0) 34 0) (txt σ x) x := hT
  obtain ⟨w, h1, h2⟩ := next_eq (k := 0) hT2 rfl (Nat.zero_le _)
  refine ⟨w, h1, h2.trans ?_⟩
  refine st_ext (fun j => ?_) rfl rfl
  simp only [rd0, mp, upd]
  by_cases j1 : j = 29 <;> by_cases j2 : j = 30 <;> by_cases j3 : j = 32 <;> by_cases j4 : j = 33 <;> by_cases j5 : j = 34 <;> simp_all [show nI 0 = 0 from rfl]
theorem Kr.okI {σ σ' : MSt} {x : Nat} {wh v : Int32} {r : (List Int32 × Ev) × (List Int32 × Ev) × (List Int32 × Ev)} (e : textG (txt σ x) = .ok r) (hv : v = if wh = 0 then r.1.2 (env σ) else if wh = 1 then r.2.1.2 (env σ) else r.2.2.2 (env σ)) (hc : Cl σ σ') (h0 : σ'.1 34 = 0) : Kr σ x wh (some (.int v)) σ' := by
  unfold Kr
  rw [e]
  exact ⟨by rw [hv], hc, h0⟩
theorem Kr.erI {σ σ' : MSt} {x y : Nat} {wh v : Int32} (e : textG (txt σ x) = .error y) (h : Er (rd0 σ x) y σ') : Kr σ x wh (some (.int v)) σ' := by
  unfold Kr
  rw [e]
  exact ⟨⟨v, rfl⟩, er_Cl h, h.2.1, h.2.2.1⟩

set_option maxRecDepth 100000 in
set_option maxHeartbeats 2000000 in
theorem mk_read {g : GC} {E : ME} {d : Nat} (hE : MEok E) (hd : 40 ≤ d) (σ : MSt) (p1 p2 : Int32) (h0 : MInv σ) (h1 : vp_in p1 6) : MC g E d yX10_read cX10_read 6 (some .int) [.int p1, .int p2] (Kr σ p1.toNatClampNeg p2) σ := by
  obtain ⟨x, hx, rfl⟩ := vp_in_of h1 (by decide)
  have e160 : (160 : Int32) * nI x = nI (160 * x) := pk_mul 160 x
  have ex : (nI x).toNatClampNeg = x := nI_clamp (by omega)
  have hT := rd_TX h0 hx
  have hs0 := rd_first h0 hx
  rw [ex]
  refine AM.of2 (own := RX10) (nm := "read") (L0 := [(0, .ref E.2.2), (1, .int (nI x)), (2, .int p2)]) (by decide) rfl rfl (Nat.le_of_ble_eq_true rfl) rfl ?_
  refine r_aload_n dX10_read_0 rfl ?_
  refine r_sipush (v := 160) dX10_read_1 (by decide) ?_
  refine r_iload_n dX10_read_4 rfl ?_
  refine r_imul dX10_read_5 ?_
  refine m_put hE dX10_read_6 fp_RX10_246 rfl rfl rfl (by decide) ?_
  refine r_aload_n dX10_read_9 rfl ?_
  refine r_aload_n dX10_read_10 rfl ?_
  refine m_get dX10_read_11 fl_RX10_17 rfl ?_
  refine r_iload_n dX10_read_14 rfl ?_
  refine m_iald (k := 2) (N := 6) hE (by decide) rfl rfl dX10_read_15 h1 ?_
  rw [e160, ex]
  refine m_put hE dX10_read_16 fp_RX10_243 rfl rfl rfl (by decide) ?_
  refine r_aload_n dX10_read_19 rfl ?_
  refine r_iconst (v := 0) dX10_read_20 (by decide) ?_
  refine m_put hE dX10_read_21 fp_RX10_249 rfl rfl rfl (by decide) ?_
  refine r_aload_n dX10_read_24 rfl ?_
  refine r_iconst (v := 0) dX10_read_25 (by decide) ?_
  refine m_put hE dX10_read_26 fp_RX10_288 rfl rfl rfl (by decide) ?_
  refine r_aload_n dX10_read_29 rfl ?_
  refine r_iconst (v := 0) dX10_read_30 (by decide) ?_
  refine m_put hE dX10_read_31 fp_RX10_281 rfl rfl rfl (by decide) ?_
  refine r_aload_n dX10_read_34 rfl ?_
  refine m_callV0 dX10_read_35 mf_X10_next ml_RX10_294 (ok_X10_next (d := d - 1) hE (by omega) _ (by obtain ⟨a, b, c, e, -⟩ := hT; exact ⟨x, _, 0, rfl, b, c, e, rfl, Nat.zero_le _⟩)) rfl rfl rfl (Nat.le_of_ble_eq_true rfl) (by omega) ?_
  have hs0 : OkS (txt σ x) (rd0 σ x) 0 0 (f_X10_next (mp (mp (mp (mp (mp σ 27 (nI (160 * x))) 28 ((mp σ 27 (nI (160 * x))).2.2 2 x)) 32 0) 33 0) 34 0)) := hs0
  generalize f_X10_next (mp (mp (mp (mp (mp σ 27 (nI (160 * x))) 28 ((mp σ 27 (nI (160 * x))).2.2 2 x)) 32 0) 33 0) 34 0) = s0 at hs0 ⊢
  refine r_aload_n dX10_read_38 rfl ?_
  refine r_ldc2 dX10_read_39 kc_RX10_369 ?_
  refine m_call (As := [.long 2436392]) dX10_read_42 mf_X10_part ml_RX10_371 (mk_part (d := d - 1) hE hT (by omega) 2436392 0 _ (Nat.zero_le _) hs0) rfl rfl rfl (Nat.le_of_ble_eq_true rfl) (by omega) (fun v1 s1 k1 => ?_)
  cases e1 : partG (txt σ x) 2436392 0 with
  | error y =>
    rw [e1] at k1
    obtain ⟨⟨z, rfl⟩, hEr⟩ := k1
    refine r_istore_n dX10_read_45 (by decide) ?_
    refine r_aload_n dX10_read_46 rfl ?_
    refine m_get dX10_read_47 fl_RX10_281 rfl ?_
    refine r_if_eq (tgt := 57) dX10_read_50 (by decide) (fun g1 => ?_) (fun g1 => ?_)
    · exact absurd g1 (by rw [hEr.2.1]; decide)
    · refine r_iconst (v := 0) dX10_read_53 (by decide) ?_
      refine r_goto (tgt := 64) dX10_read_54 (by decide) ?_
      refine r_istore dX10_read_64 (by decide) ?_
      refine r_aload_n dX10_read_66 rfl ?_
      refine m_get dX10_read_67 fl_RX10_281 rfl ?_
      refine r_if_eq (tgt := 77) dX10_read_70 (by decide) (fun g2 => ?_) (fun g2 => ?_)
      · exact absurd g2 (by rw [hEr.2.1]; decide)
      · refine r_iconst (v := 0) dX10_read_73 (by decide) ?_
        refine r_goto (tgt := 84) dX10_read_74 (by decide) ?_
        refine r_istore dX10_read_84 (by decide) ?_
        refine r_aload_n dX10_read_86 rfl ?_
        refine m_get dX10_read_87 fl_RX10_281 rfl ?_
        refine r_if_ne (tgt := 104) dX10_read_90 (by decide) (fun g3 => ?_) (fun g3 => ?_)
        · refine r_iload_n dX10_read_104 rfl ?_
          refine r_if_ne (tgt := 112) dX10_read_105 (by decide) (fun f1 => ?_) (fun f1 => ?_)
          · refine r_iload_n dX10_read_112 rfl ?_
            refine r_iconst (v := 1) dX10_read_113 (by decide) ?_
            refine r_icmp_ne (tgt := 122) dX10_read_114 (by decide) (fun f2 => ?_) (fun f2 => ?_)
            · refine r_iload dX10_read_122 rfl ?_
              refine r_iret dX10_read_124 rfl rfl ?_
              exact ⟨_, rfl, Kr.erI (by unfold textG; rw [e1]) hEr⟩
            · refine r_iload dX10_read_117 rfl ?_
              refine r_goto (tgt := 124) dX10_read_119 (by decide) ?_
              refine r_iret dX10_read_124 rfl rfl ?_
              exact ⟨_, rfl, Kr.erI (by unfold textG; rw [e1]) hEr⟩
          · refine r_iload_n dX10_read_108 rfl ?_
            refine r_goto (tgt := 124) dX10_read_109 (by decide) ?_
            refine r_iret dX10_read_124 rfl rfl ?_
            exact ⟨_, rfl, Kr.erI (by unfold textG; rw [e1]) hEr⟩
        · exact absurd g3 (by rw [hEr.2.1]; decide)
  | ok a =>
    rw [e1] at k1
    obtain ⟨a1, rfl, w1, hw1, rfl⟩ := k1
    refine r_istore_n dX10_read_45 (by decide) ?_
    refine r_aload_n dX10_read_46 rfl ?_
    refine m_get dX10_read_47 fl_RX10_281 rfl ?_
    refine r_if_eq (tgt := 57) dX10_read_50 (by decide) (fun g1 => ?_) (fun g1 => ?_)
    · refine r_aload_n dX10_read_57 rfl ?_
      refine r_ldc2 dX10_read_58 kc_RX10_375 ?_
      refine m_call (As := [.long 8863997]) dX10_read_61 mf_X10_part ml_RX10_371 (mk_part (d := d - 1) hE hT (by omega) 8863997 _ _ a1 ⟨w1, hw1, rfl⟩) rfl rfl rfl (Nat.le_of_ble_eq_true rfl) (by omega) (fun v2 s2 k2 => ?_)
      cases e2 : partG (txt σ x) 8863997 a.2.2 with
      | error y =>
        rw [e2] at k2
        obtain ⟨⟨z, rfl⟩, hEr⟩ := k2
        refine r_istore dX10_read_64 (by decide) ?_
        refine r_aload_n dX10_read_66 rfl ?_
        refine m_get dX10_read_67 fl_RX10_281 rfl ?_
        refine r_if_eq (tgt := 77) dX10_read_70 (by decide) (fun g2 => ?_) (fun g2 => ?_)
        · exact absurd g2 (by rw [hEr.2.1]; decide)
        · refine r_iconst (v := 0) dX10_read_73 (by decide) ?_
          refine r_goto (tgt := 84) dX10_read_74 (by decide) ?_
          refine r_istore dX10_read_84 (by decide) ?_
          refine r_aload_n dX10_read_86 rfl ?_
          refine m_get dX10_read_87 fl_RX10_281 rfl ?_
          refine r_if_ne (tgt := 104) dX10_read_90 (by decide) (fun g3 => ?_) (fun g3 => ?_)
          · refine r_iload_n dX10_read_104 rfl ?_
            refine r_if_ne (tgt := 112) dX10_read_105 (by decide) (fun f1 => ?_) (fun f1 => ?_)
            · refine r_iload_n dX10_read_112 rfl ?_
              refine r_iconst (v := 1) dX10_read_113 (by decide) ?_
              refine r_icmp_ne (tgt := 122) dX10_read_114 (by decide) (fun f2 => ?_) (fun f2 => ?_)
              · refine r_iload dX10_read_122 rfl ?_
                refine r_iret dX10_read_124 rfl rfl ?_
                exact ⟨_, rfl, Kr.erI (by unfold textG; rw [e1]; simp only []; rw [e2]) hEr⟩
              · refine r_iload dX10_read_117 rfl ?_
                refine r_goto (tgt := 124) dX10_read_119 (by decide) ?_
                refine r_iret dX10_read_124 rfl rfl ?_
                exact ⟨_, rfl, Kr.erI (by unfold textG; rw [e1]; simp only []; rw [e2]) hEr⟩
            · refine r_iload_n dX10_read_108 rfl ?_
              refine r_goto (tgt := 124) dX10_read_109 (by decide) ?_
              refine r_iret dX10_read_124 rfl rfl ?_
              exact ⟨_, rfl, Kr.erI (by unfold textG; rw [e1]; simp only []; rw [e2]) hEr⟩
          · exact absurd g3 (by rw [hEr.2.1]; decide)
      | ok b =>
        rw [e2] at k2
        obtain ⟨b1, rfl, w2, hw2, rfl⟩ := k2
        refine r_istore dX10_read_64 (by decide) ?_
        refine r_aload_n dX10_read_66 rfl ?_
        refine m_get dX10_read_67 fl_RX10_281 rfl ?_
        refine r_if_eq (tgt := 77) dX10_read_70 (by decide) (fun g2 => ?_) (fun g2 => ?_)
        · refine r_aload_n dX10_read_77 rfl ?_
          refine r_ldc2 dX10_read_78 kc_RX10_377 ?_
          refine m_call (As := [.long 307058]) dX10_read_81 mf_X10_part ml_RX10_371 (mk_part (d := d - 1) hE hT (by omega) 307058 _ _ b1 ⟨w2, hw2, rfl⟩) rfl rfl rfl (Nat.le_of_ble_eq_true rfl) (by omega) (fun v3 s3 k3 => ?_)
          cases e3 : partG (txt σ x) 307058 b.2.2 with
          | error y =>
            rw [e3] at k3
            obtain ⟨⟨z, rfl⟩, hEr⟩ := k3
            refine r_istore dX10_read_84 (by decide) ?_
            refine r_aload_n dX10_read_86 rfl ?_
            refine m_get dX10_read_87 fl_RX10_281 rfl ?_
            refine r_if_ne (tgt := 104) dX10_read_90 (by decide) (fun g3 => ?_) (fun g3 => ?_)
            · refine r_iload_n dX10_read_104 rfl ?_
              refine r_if_ne (tgt := 112) dX10_read_105 (by decide) (fun f1 => ?_) (fun f1 => ?_)
              · refine r_iload_n dX10_read_112 rfl ?_
                refine r_iconst (v := 1) dX10_read_113 (by decide) ?_
                refine r_icmp_ne (tgt := 122) dX10_read_114 (by decide) (fun f2 => ?_) (fun f2 => ?_)
                · refine r_iload dX10_read_122 rfl ?_
                  refine r_iret dX10_read_124 rfl rfl ?_
                  exact ⟨_, rfl, Kr.erI (by unfold textG; rw [e1]; simp only []; rw [e2]; simp only []; rw [e3]) hEr⟩
                · refine r_iload dX10_read_117 rfl ?_
                  refine r_goto (tgt := 124) dX10_read_119 (by decide) ?_
                  refine r_iret dX10_read_124 rfl rfl ?_
                  exact ⟨_, rfl, Kr.erI (by unfold textG; rw [e1]; simp only []; rw [e2]; simp only []; rw [e3]) hEr⟩
              · refine r_iload_n dX10_read_108 rfl ?_
                refine r_goto (tgt := 124) dX10_read_109 (by decide) ?_
                refine r_iret dX10_read_124 rfl rfl ?_
                exact ⟨_, rfl, Kr.erI (by unfold textG; rw [e1]; simp only []; rw [e2]; simp only []; rw [e3]) hEr⟩
            · exact absurd g3 (by rw [hEr.2.1]; decide)
          | ok c =>
            rw [e3] at k3
            obtain ⟨c1, rfl, w3, hw3, rfl⟩ := k3
            refine r_istore dX10_read_84 (by decide) ?_
            refine r_aload_n dX10_read_86 rfl ?_
            refine m_get dX10_read_87 fl_RX10_281 rfl ?_
            refine r_if_ne (tgt := 104) dX10_read_90 (by decide) (fun g3 => ?_) (fun g3 => ?_)
            · exact absurd rfl g3
            · refine r_aload_n dX10_read_93 rfl ?_
              refine m_get dX10_read_94 fl_RX10_258 rfl ?_
              refine r_if_eq (tgt := 104) dX10_read_97 (by decide) (fun g4 => ?_) (fun g4 => ?_)
              · have g4 : (tk (txt σ x) c.2.2).1 = 0 := g4
                refine r_iload_n dX10_read_104 rfl ?_
                refine r_if_ne (tgt := 112) dX10_read_105 (by decide) (fun f1 => ?_) (fun f1 => ?_)
                · refine r_iload_n dX10_read_112 rfl ?_
                  refine r_iconst (v := 1) dX10_read_113 (by decide) ?_
                  refine r_icmp_ne (tgt := 122) dX10_read_114 (by decide) (fun f2 => ?_) (fun f2 => ?_)
                  · refine r_iload dX10_read_122 rfl ?_
                    refine r_iret dX10_read_124 rfl rfl ?_
                    exact ⟨_, rfl, Kr.okI (r := ((a.1, a.2.1), (b.1, b.2.1), (c.1, c.2.1))) (by unfold textG; rw [e1]; simp only []; rw [e2]; simp only []; rw [e3]; simp only []; rw [if_pos g4]) (by rw [if_neg f1, if_neg f2, rd_env]) rd_Cl rfl⟩
                  · refine r_iload dX10_read_117 rfl ?_
                    refine r_goto (tgt := 124) dX10_read_119 (by decide) ?_
                    refine r_iret dX10_read_124 rfl rfl ?_
                    exact ⟨_, rfl, Kr.okI (r := ((a.1, a.2.1), (b.1, b.2.1), (c.1, c.2.1))) (by unfold textG; rw [e1]; simp only []; rw [e2]; simp only []; rw [e3]; simp only []; rw [if_pos g4]) (by rw [if_neg f1, if_pos f2, rd_env]) rd_Cl rfl⟩
                · refine r_iload_n dX10_read_108 rfl ?_
                  refine r_goto (tgt := 124) dX10_read_109 (by decide) ?_
                  refine r_iret dX10_read_124 rfl rfl ?_
                  exact ⟨_, rfl, Kr.okI (r := ((a.1, a.2.1), (b.1, b.2.1), (c.1, c.2.1))) (by unfold textG; rw [e1]; simp only []; rw [e2]; simp only []; rw [e3]; simp only []; rw [if_pos g4]) (by rw [if_pos f1, rd_env]) rd_Cl rfl⟩
              · have g4 : ¬ (tk (txt σ x) c.2.2).1 = 0 := g4
                have hEr := ps_fail (σ0 := rd0 σ x) (o := 0) (w := w3) (tk (txt σ x) c.2.2)
                refine r_aload_n dX10_read_100 rfl ?_
                refine m_callV0 dX10_read_101 mf_X10_fail ml_RX10_291 (ok_X10_fail (d := d - 1) hE (by omega) _ ) rfl rfl rfl (Nat.le_of_ble_eq_true rfl) (by omega) ?_
                generalize f_X10_fail (psS (rd0 σ x) (tk (txt σ x) c.2.2) w3 0) = s9 at hEr ⊢
                refine r_iload_n dX10_read_104 rfl ?_
                refine r_if_ne (tgt := 112) dX10_read_105 (by decide) (fun f1 => ?_) (fun f1 => ?_)
                · refine r_iload_n dX10_read_112 rfl ?_
                  refine r_iconst (v := 1) dX10_read_113 (by decide) ?_
                  refine r_icmp_ne (tgt := 122) dX10_read_114 (by decide) (fun f2 => ?_) (fun f2 => ?_)
                  · refine r_iload dX10_read_122 rfl ?_
                    refine r_iret dX10_read_124 rfl rfl ?_
                    exact ⟨_, rfl, Kr.erI (by unfold textG; rw [e1]; simp only []; rw [e2]; simp only []; rw [e3]; simp only []; rw [if_neg g4]) hEr⟩
                  · refine r_iload dX10_read_117 rfl ?_
                    refine r_goto (tgt := 124) dX10_read_119 (by decide) ?_
                    refine r_iret dX10_read_124 rfl rfl ?_
                    exact ⟨_, rfl, Kr.erI (by unfold textG; rw [e1]; simp only []; rw [e2]; simp only []; rw [e3]; simp only []; rw [if_neg g4]) hEr⟩
                · refine r_iload_n dX10_read_108 rfl ?_
                  refine r_goto (tgt := 124) dX10_read_109 (by decide) ?_
                  refine r_iret dX10_read_124 rfl rfl ?_
                  exact ⟨_, rfl, Kr.erI (by unfold textG; rw [e1]; simp only []; rw [e2]; simp only []; rw [e3]; simp only []; rw [if_neg g4]) hEr⟩
        · exact absurd rfl g2
    · exact absurd rfl g1
