
/-- the first i bytes of THE TAPE copied behind the last text -/
def cpyT (σ : MSt) (tc i : Nat) : MSt := (σ.1, σ.2.1, fun j => if j = 1 then (fun m => if 160 * tc ≤ m ∧ m < 160 * tc + i then σ.2.2 5 (m - 160 * tc) else σ.2.2 1 m) else σ.2.2 j)
theorem cpyT_0 (σ : MSt) (tc : Nat) : cpyT σ tc 0 = σ := by
  obtain ⟨f, w, A⟩ := σ
  refine st_ext (fun _ => rfl) rfl (funext fun j => ?_)
  dsimp only
  split
  · next q =>
    subst q
    funext m
    rw [if_neg (by omega)]
  · rfl
theorem cpyT_1 (σ : MSt) (tc i : Nat) : ma (cpyT σ tc i) 1 (160 * tc + i) (σ.2.2 5 i) = cpyT σ tc (i + 1) := by
  refine st_ext (fun _ => rfl) rfl (funext fun j => ?_)
  by_cases q : j = 1
  · subst q
    funext m
    simp only [upd, cpyT, if_true]
    by_cases z : m = 160 * tc + i
    · rw [if_pos z, if_pos (by omega), z, Nat.add_sub_cancel_left]
    · rw [if_neg z]
      by_cases y : 160 * tc ≤ m ∧ m < 160 * tc + i
      · rw [if_pos y, if_pos (by omega)]
      · rw [if_neg y, if_neg (by omega)]
  · simp only [cpyT, if_neg q]
/-- a text more is read: its bytes and size, THE TAPE empty -/
def txS (σ : MSt) (tc : Nat) : MSt := mp (ma (cpyT σ tc (σ.1 6).toNatClampNeg) 2 tc (σ.1 6)) 6 0
def Kt (σ : MSt) (v : Option Value) (σ' : MSt) : Prop := if σ.1 3 = 6 then v = some (.int (-4)) ∧ σ' = σ else match textG (txt (txS σ (σ.1 3).toNatClampNeg) (σ.1 3).toNatClampNeg) with
  | .error y => v = some (.int (-100 - nI y)) ∧ Sm (txS σ (σ.1 3).toNatClampNeg) σ'
  | .ok _ => v = some (.int (σ.1 3)) ∧ Sm (mp (txS σ (σ.1 3).toNatClampNeg) 3 (σ.1 3 + 1)) σ'
theorem MInv.txS {σ : MSt} (h : MInv σ) {tc : Nat} : MInv (txS σ tc) := by
  obtain ⟨⟨a1, a2, a3, a4, a5⟩, b1, b2, b3, b4, b5, b6, b7, b8, b9, b10, b11, b12, b13, b14, b15, b16⟩ := id h
  refine ⟨⟨a1, a2, a3, a4, Ct.zero _⟩, b1, b2, b3, b4, b5, b6, b7, b8, b9, fun i => ?_, b11, b12, b13, b14, fun i => ?_, b16⟩
  · show Ct (upd (σ.2.2 2) tc (σ.1 6) i) 160
    unfold upd
    split
    · exact a5
    · exact b10 i
  · show 0 ≤ (if 160 * tc ≤ i ∧ i < 160 * tc + (σ.1 6).toNatClampNeg then σ.2.2 5 (i - 160 * tc) else σ.2.2 1 i)
    split
    · exact b16 _
    · exact b15 i
theorem Sm.mp {σ σ' : MSt} (h : Sm σ σ') (k : Nat) (v : Int32) : Sm (mp σ k v) (mp σ' k v) := by
  refine ⟨h.1, fun j hj => ?_⟩
  show upd σ'.1 k v j = upd σ.1 k v j
  unfold upd
  split
  · rfl
  · exact h.2 j hj

set_option maxRecDepth 100000 in
set_option maxHeartbeats 2000000 in
theorem lp_text {g : GC} {E : ME} {d tc m : Nat} {σ : MSt} {K : Option Value → MSt → Prop} (hE : MEok E) (h3 : σ.1 3 = nI tc) (htc : tc < 6) (h6 : σ.1 6 = nI m) (hm : m ≤ 160) (hk : MW g E cX10_text 2 (some .int) "text" d K 49 [(0, .ref E.2.2), (1, .int (nI m))] [] (cpyT σ tc m)) : ∀ n i : Nat, i ≤ m → m - i < n → MW g E cX10_text 2 (some .int) "text" d K 14 [(0, .ref E.2.2), (1, .int (nI i))] [] (cpyT σ tc i) := by
  intro n
  induction n with
  | zero => intro i _ h; exact absurd h (Nat.not_lt_zero _)
  | succ n ih =>
    intro i hi hn
    have t6 : (cpyT σ tc i).1 6 = nI m := h6
    have t3 : (cpyT σ tc i).1 3 = nI tc := h3
    refine r_iload_n dX10_text_14 rfl ?_
    refine r_aload_n dX10_text_15 rfl ?_
    refine m_get dX10_text_16 fl_RX10_240 rfl ?_
    refine r_icmp_ge (tgt := 49) dX10_text_19 (by decide) (fun c => ?_) (fun c => ?_)
    · have c : (cpyT σ tc i).1 6 ≤ nI i := c
      rw [t6] at c
      have : m ≤ i := (nI_leI (by omega) (by omega)).mp c
      have e : i = m := by omega
      subst e
      exact hk
    · have c : ¬ (cpyT σ tc i).1 6 ≤ nI i := c
      rw [t6] at c
      have hlt : i < m := by rcases Nat.lt_or_ge i m with q | q; exact q; exact absurd (nI_le q (by omega)) c
      refine r_aload_n dX10_text_22 rfl ?_
      refine m_get dX10_text_23 fl_RX10_13 rfl ?_
      refine r_sipush (v := 160) dX10_text_26 (by decide) ?_
      refine r_aload_n dX10_text_29 rfl ?_
      refine m_get dX10_text_30 fl_RX10_141 rfl ?_
      refine r_imul dX10_text_33 ?_
      refine r_iload_n dX10_text_34 rfl ?_
      refine r_iadd dX10_text_35 ?_
      rw [t3, show (160 : Int32) * nI tc = nI (160 * tc) from pk_mul 160 tc, nI_add]
      refine r_aload_n dX10_text_36 rfl ?_
      refine m_get dX10_text_37 fl_RX10_20 rfl ?_
      refine r_iload_n dX10_text_40 rfl ?_
      refine m_iald (k := 5) (N := 160) hE (by decide) rfl rfl dX10_text_41 (vp_in_nI (by omega) (by decide)) ?_
      refine m_iast (k := 1) (N := 960) hE (by decide) rfl rfl dX10_text_42 (vp_in_nI (by omega) (by decide)) ?_
      rw [nI_clamp (show i < 2 ^ 31 by omega), nI_clamp (show 160 * tc + i < 2 ^ 31 by omega), show (cpyT σ tc i).2.2 5 i = σ.2.2 5 i from rfl, cpyT_1]
      refine r_iinc2 (w := 1) dX10_text_43 rfl (by decide) (by decide) ?_
      refine r_goto (tgt := 14) dX10_text_46 (by decide) ?_
      refine r_loc (L' := [(0, .ref E.2.2), (1, .int (nI (i + 1)))]) [1, 0] (by rw [← nI_1]; rfl) ?_
      exact ih (i + 1) (by omega) (by omega)

set_option maxRecDepth 100000 in
set_option maxHeartbeats 2000000 in
theorem mk_text {g : GC} {E : ME} {d : Nat} (hE : MEok E) (hd : 41 ≤ d) (σ : MSt) (h0 : MInv σ) : MC g E d yX10_text cX10_text 2 (some .int) [] (Kt σ) σ := by
  obtain ⟨tc, htc, h3⟩ := h0.nt
  obtain ⟨m, hm, h6⟩ := h0.np
  refine AM.of2 (own := RX10) (nm := "text") (L0 := [(0, .ref E.2.2)]) (by decide) rfl rfl (Nat.le_of_ble_eq_true rfl) rfl ?_
  refine r_aload_n dX10_text_0 rfl ?_
  refine m_get dX10_text_1 fl_RX10_141 rfl ?_
  refine r_bipush (v := 6) dX10_text_4 (by decide) ?_
  refine r_icmp_ne (tgt := 12) dX10_text_6 (by decide) (fun c => ?_) (fun c => ?_)
  · have hlt : tc < 6 := by rcases Nat.lt_or_ge tc 6 with q | q; exact q; exact absurd (by rw [h3, show tc = 6 by omega]; rfl) c
    have ec : (σ.1 3).toNatClampNeg = tc := by rw [h3, nI_clamp (by omega)]
    have em : (σ.1 6).toNatClampNeg = m := by rw [h6, nI_clamp (by omega)]
    refine r_iconst (v := 0) dX10_text_12 (by decide) ?_
    refine r_istore_n dX10_text_13 (by decide) ?_
    rw [show mH E σ = mH E (cpyT σ tc 0) by rw [cpyT_0]]
    refine r_loc (L' := [(0, .ref E.2.2), (1, .int (nI 0))]) [1, 0] rfl ?_
    refine lp_text hE h3 hlt h6 hm ?_ 162 0 (Nat.zero_le _) (by omega)
    refine r_aload_n dX10_text_49 rfl ?_
    refine m_get dX10_text_50 fl_RX10_17 rfl ?_
    refine r_aload_n dX10_text_53 rfl ?_
    refine m_get dX10_text_54 fl_RX10_141 rfl ?_
    refine r_aload_n dX10_text_57 rfl ?_
    refine m_get dX10_text_58 fl_RX10_240 rfl ?_
    have t3 : (cpyT σ tc m).1 3 = nI tc := h3
    rw [t3]
    refine m_iast (k := 2) (N := 6) hE (by decide) rfl rfl dX10_text_61 (vp_in_nI hlt (by decide)) ?_
    rw [nI_clamp (show tc < 2 ^ 31 by omega)]
    refine r_aload_n dX10_text_62 rfl ?_
    refine r_iconst (v := 0) dX10_text_63 (by decide) ?_
    refine m_put hE dX10_text_64 fp_RX10_240 rfl rfl rfl (by decide) ?_
    have hS : mp (ma (cpyT σ tc m) 2 tc ((cpyT σ tc m).1 6)) 6 0 = txS σ tc := by unfold txS; rw [em]; rfl
    rw [hS]
    refine r_aload_n dX10_text_67 rfl ?_
    refine r_aload_n dX10_text_68 rfl ?_
    refine m_get dX10_text_69 fl_RX10_141 rfl ?_
    refine r_iconst (v := 0) dX10_text_72 (by decide) ?_
    have s3 : (txS σ tc).1 3 = nI tc := h3
    rw [s3]
    refine m_call (As := [.int (nI tc), .int 0]) dX10_text_73 mf_X10_read ml_RX10_379 (mk_read (d := d - 1) hE (by omega) _ _ _ h0.txS (vp_in_nI hlt (by decide))) rfl rfl rfl (Nat.le_of_ble_eq_true rfl) (by omega) (fun v s k => ?_)
    rw [nI_clamp (show tc < 2 ^ 31 by omega)] at k
    unfold Kr at k
    have hKt : ∀ v σ', Kt σ v σ' = match textG (txt (txS σ tc) tc) with
        | .error y => v = some (.int (-100 - nI y)) ∧ Sm (txS σ tc) σ'
        | .ok _ => v = some (.int (σ.1 3)) ∧ Sm (mp (txS σ tc) 3 (σ.1 3 + 1)) σ' := by
      intro v σ'
      unfold Kt
      rw [if_neg c, ec]
    cases e : textG (txt (txS σ tc) tc) with
    | error y =>
      rw [e] at k
      obtain ⟨⟨z, rfl⟩, hc, h34, h35⟩ := k
      refine r_istore_n dX10_text_76 (by decide) ?_
      refine r_aload_n dX10_text_77 rfl ?_
      refine m_get dX10_text_78 fl_RX10_281 rfl ?_
      refine r_if_eq (tgt := 92) dX10_text_81 (by decide) (fun c2 => ?_) (fun c2 => ?_)
      · exact absurd c2 (by rw [h34]; decide)
      · refine r_bipush (v := (-100)) dX10_text_84 (by decide) ?_
        refine r_aload_n dX10_text_86 rfl ?_
        refine m_get dX10_text_87 fl_RX10_285 rfl ?_
        refine r_isub dX10_text_90 ?_
        refine r_iret dX10_text_91 rfl rfl ?_
        exact ⟨_, rfl, by rw [hKt, e]; exact ⟨by rw [h35], hc.sm⟩⟩
    | ok r =>
      rw [e] at k
      obtain ⟨rfl, hc, h34⟩ := k
      refine r_istore_n dX10_text_76 (by decide) ?_
      refine r_aload_n dX10_text_77 rfl ?_
      refine m_get dX10_text_78 fl_RX10_281 rfl ?_
      refine r_if_eq (tgt := 92) dX10_text_81 (by decide) (fun c2 => ?_) (fun c2 => ?_)
      · have s3 : s.1 3 = σ.1 3 := (hc.2 3 (by omega)).trans (s3.trans h3.symm)
        refine r_aload_n dX10_text_92 rfl ?_
        refine r_dup dX10_text_93 rfl ?_
        refine m_get dX10_text_94 fl_RX10_141 rfl ?_
        refine r_iconst (v := 1) dX10_text_97 (by decide) ?_
        refine r_iadd dX10_text_98 ?_
        rw [s3]
        refine m_put hE dX10_text_99 fp_RX10_141 rfl rfl rfl (by decide) ?_
        refine r_aload_n dX10_text_102 rfl ?_
        refine m_get dX10_text_103 fl_RX10_141 rfl ?_
        refine r_iconst (v := 1) dX10_text_106 (by decide) ?_
        refine r_isub dX10_text_107 ?_
        refine r_iret dX10_text_108 rfl rfl ?_
        refine ⟨_, rfl, ?_⟩
        rw [hKt, e]
        refine ⟨?_, hc.sm.mp 3 _⟩
        show some (Value.int (upd s.1 3 (σ.1 3 + 1) 3 - 1)) = _
        rw [show upd s.1 3 (σ.1 3 + 1) 3 = σ.1 3 + 1 from if_pos rfl, Int32.add_sub_cancel]
      · exact absurd h34 c2
  · refine r_bipush (v := (-4)) dX10_text_9 (by decide) ?_
    refine r_iret dX10_text_11 rfl rfl ?_
    exact ⟨_, rfl, by unfold Kt; rw [if_pos c]; exact ⟨rfl, rfl⟩⟩
