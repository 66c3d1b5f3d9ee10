/-- where a text lies (from, size), and a place in it -/
def PV (f s k : Int32) : Prop := ∃ x n j : Nat, f = nI (160 * x) ∧ x < 6 ∧ s = nI n ∧ n ≤ 160 ∧ k = nI j ∧ j ≤ n
theorem PV.in {f s k : Int32} (h : PV f s k) (c : ¬ s ≤ k) : vp_in (f + k) 960 := by
  obtain ⟨x, n, j, rfl, h1, rfl, h2, rfl, h3⟩ := h
  have : ¬ n ≤ j := fun q => c (nI_le q (by omega))
  rw [nI_add]
  exact vp_in_nI (by omega) (by decide)
theorem PV.step {f s k : Int32} (h : PV f s k) (c : ¬ s ≤ k) : PV f s (k + 1) ∧ (s - (k + 1)).toNatClampNeg < (s - k).toNatClampNeg := by
  obtain ⟨x, n, j, rfl, h1, rfl, h2, rfl, h3⟩ := h
  have : ¬ n ≤ j := fun q => c (nI_le q (by omega))
  refine ⟨⟨x, n, j + 1, rfl, h1, rfl, h2, nI_1 j, by omega⟩, ?_⟩
  rw [nI_1, pk_sub (by omega), pk_sub (by omega), nI_clamp (by omega), nI_clamp (by omega)]
  omega
theorem PV.m {f s k : Int32} (h : PV f s k) : (s - k).toNatClampNeg < 162 := by
  obtain ⟨x, n, j, rfl, h1, rfl, h2, rfl, h3⟩ := h
  rw [pk_sub (by omega), nI_clamp (by omega)]
  omega

def f_X10_byteAt (σ : MSt) (p1 : Int32) : Int32 := (if (σ.1 28) ≤ p1 then (-1 : Int32) else (σ.2.2 1 (Int32.toNatClampNeg ((σ.1 27) + p1))))
set_option maxRecDepth 100000 in
set_option maxHeartbeats 1000000 in
theorem ok_X10_byteAt {g : GC} {E : ME} {d : Nat} (hE : MEok E) (hd : 0 ≤ d) (σ : MSt) (p1 : Int32) (h0 : PV (σ.1 27) (σ.1 28) p1) : MC g E d yX10_byteAt cX10_byteAt 2 (some FieldType.int) [.int p1] (fun v σ' => v = some (.int (f_X10_byteAt σ p1)) ∧ σ' = σ) σ := by
  refine AM.of2 (own := RX10) (nm := "byteAt") (L0 := [(0, .ref E.2.2), (1, .int p1)]) (by decide) rfl rfl (Nat.le_of_ble_eq_true rfl) rfl ?_
  refine r_iload_n dX10_byteAt_0 rfl ?_
  refine r_aload_n dX10_byteAt_1 rfl ?_
  refine m_get dX10_byteAt_2 fl_RX10_243 rfl ?_
  refine r_icmp_ge (tgt := 22) dX10_byteAt_5 (by decide) (fun c1 => ?_) (fun c1 => ?_)
  · refine r_iconst (v := (-1 : Int32)) dX10_byteAt_22 (by decide) ?_
    refine r_iret dX10_byteAt_23 rfl rfl ?_
    exact ⟨_, rfl, by rw [f_X10_byteAt, if_pos c1], rfl⟩
  · refine r_aload_n dX10_byteAt_8 rfl ?_
    refine m_get dX10_byteAt_9 fl_RX10_13 rfl ?_
    refine r_aload_n dX10_byteAt_12 rfl ?_
    refine m_get dX10_byteAt_13 fl_RX10_246 rfl ?_
    refine r_iload_n dX10_byteAt_16 rfl ?_
    refine r_iadd dX10_byteAt_17 ?_
    refine m_iald (k := 1) (N := 960) hE (by decide) rfl rfl dX10_byteAt_18 (by with_reducible exact h0.in (by with_reducible assumption)) ?_
    refine r_goto (tgt := 23) dX10_byteAt_19 (by decide) ?_
    refine r_iret dX10_byteAt_23 rfl rfl ?_
    exact ⟨_, rfl, by rw [f_X10_byteAt, if_neg c1], rfl⟩

theorem byte_lt {σ : MSt} {k : Int32} (c : ¬ f_X10_byteAt σ k = -1) : ¬ σ.1 28 ≤ k := by
  intro q
  apply c
  unfold f_X10_byteAt
  rw [if_pos q]
theorem byte_eq {σ : MSt} {k v : Int32} (hv : v ≠ -1) (c : f_X10_byteAt σ k = v) : ¬ σ.1 28 ≤ k := byte_lt (by rw [c]; exact hv)
theorem byte_in {σ : MSt} {k : Int32} {a b : Int64} (ha : 0 ≤ a) (c : ¬ f_X10_in (Int32.toInt64 (f_X10_byteAt σ k)) a b = 0) : ¬ σ.1 28 ≤ k := by
  apply byte_lt
  intro e
  rw [e, f_in_iff] at c
  have : ¬ (a ≤ Int32.toInt64 (-1) ∧ Int32.toInt64 (-1) ≤ b) := by
    intro q
    have h1 := Int64.le_iff_toInt_le.mp q.1
    have h2 := Int64.le_iff_toInt_le.mp ha
    rw [t64] at h1
    simp at h1 h2
    omega
  rw [if_neg this] at c
  exact c rfl
theorem byte_let {σ : MSt} {k : Int32} (c : ¬ f_X10_in (Int32.toInt64 (f_X10_byteAt σ k)) 97 122 = 0) : ¬ σ.1 28 ≤ k := byte_in (by decide) c
theorem byte_dig {σ : MSt} {k : Int32} (c : ¬ f_X10_in (Int32.toInt64 (f_X10_byteAt σ k)) 48 57 = 0) : ¬ σ.1 28 ≤ k := byte_in (by decide) c
theorem byte_32 {σ : MSt} {k : Int32} (c : f_X10_byteAt σ k = 32) : ¬ σ.1 28 ≤ k := byte_eq (by decide) c
theorem byte_10 {σ : MSt} {k : Int32} (c : f_X10_byteAt σ k = 10) : ¬ σ.1 28 ≤ k := byte_eq (by decide) c

def f_X10_fail (σ : MSt)  : MSt := (if (σ.1 34) = 0 then (mp (mp σ 34 (1 : Int32)) 35 ((mp σ 34 (1 : Int32)).1 30)) else σ)
set_option maxRecDepth 100000 in
set_option maxHeartbeats 1000000 in
theorem ok_X10_fail {g : GC} {E : ME} {d : Nat} (hE : MEok E) (hd : 0 ≤ d) (σ : MSt)   : MC g E d yX10_fail cX10_fail 1 none [] (fun v σ' => v = none ∧ σ' = (f_X10_fail σ )) σ := by
  refine AM.of2 (own := RX10) (nm := "fail") (L0 := [(0, .ref E.2.2)]) (by decide) rfl rfl (Nat.le_of_ble_eq_true rfl) rfl ?_
  refine r_aload_n dX10_fail_0 rfl ?_
  refine m_get dX10_fail_1 fl_RX10_281 rfl ?_
  refine r_if_ne (tgt := 20) dX10_fail_4 (by decide) (fun c1 => ?_) (fun c1 => ?_)
  · refine r_vret dX10_fail_20 rfl ?_
    exact ⟨_, rfl, by rfl, by rw [f_X10_fail, if_neg c1]⟩
  · refine r_aload_n dX10_fail_7 rfl ?_
    refine r_iconst (v := (1 : Int32)) dX10_fail_8 (by decide) ?_
    refine m_put hE dX10_fail_9 fp_RX10_281 (by decide) rfl rfl (by decide) ?_
    refine r_aload_n dX10_fail_12 rfl ?_
    refine r_aload_n dX10_fail_13 rfl ?_
    refine m_get dX10_fail_14 fl_RX10_255 rfl ?_
    refine m_put hE dX10_fail_17 fp_RX10_285 rfl rfl rfl (by decide) ?_
    refine r_vret dX10_fail_20 rfl ?_
    exact ⟨_, rfl, by rfl, by rw [f_X10_fail, if_pos c1]⟩

def f_X10_isWord (σ : MSt) (p1 : Int64) : Int32 := (if (σ.1 34) = 0 then (if (σ.1 29) = (1 : Int32) then (if (lg_cmp σ.2.1 p1) = 0 then (1 : Int32) else (0 : Int32)) else (0 : Int32)) else (0 : Int32))
set_option maxRecDepth 100000 in
set_option maxHeartbeats 1000000 in
theorem ok_X10_isWord {g : GC} {E : ME} {d : Nat} (hE : MEok E) (hd : 0 ≤ d) (σ : MSt) (p1 : Int64)  : MC g E d yX10_isWord cX10_isWord 3 (some FieldType.boolean) [.long p1] (fun v σ' => v = some (.int (f_X10_isWord σ p1)) ∧ σ' = σ) σ := by
  refine AM.of2 (own := RX10) (nm := "isWord") (L0 := [(0, .ref E.2.2), (1, .long p1)]) (by decide) rfl rfl (Nat.le_of_ble_eq_true rfl) rfl ?_
  refine r_aload_n dX10_isWord_0 rfl ?_
  refine m_get dX10_isWord_1 fl_RX10_281 rfl ?_
  refine r_if_ne (tgt := 28) dX10_isWord_4 (by decide) (fun c1 => ?_) (fun c1 => ?_)
  · refine r_iconst (v := (0 : Int32)) dX10_isWord_28 (by decide) ?_
    refine r_iret dX10_isWord_29 rfl (by decide) ?_
    exact ⟨_, rfl, by rw [f_X10_isWord, if_neg c1], rfl⟩
  · refine r_aload_n dX10_isWord_7 rfl ?_
    refine m_get dX10_isWord_8 fl_RX10_258 rfl ?_
    refine r_iconst (v := (1 : Int32)) dX10_isWord_11 (by decide) ?_
    refine r_icmp_ne (tgt := 28) dX10_isWord_12 (by decide) (fun c2 => ?_) (fun c2 => ?_)
    · refine r_iconst (v := (0 : Int32)) dX10_isWord_28 (by decide) ?_
      refine r_iret dX10_isWord_29 rfl (by decide) ?_
      exact ⟨_, rfl, by rw [f_X10_isWord, if_pos c1, if_neg c2], rfl⟩
    · refine r_aload_n dX10_isWord_15 rfl ?_
      refine m_get dX10_isWord_16 fl_RX10_265 rfl ?_
      refine r_lload_n dX10_isWord_19 rfl ?_
      refine r_lcmp dX10_isWord_20 ?_
      refine r_if_ne (tgt := 28) dX10_isWord_21 (by decide) (fun c3 => ?_) (fun c3 => ?_)
      · refine r_iconst (v := (0 : Int32)) dX10_isWord_28 (by decide) ?_
        refine r_iret dX10_isWord_29 rfl (by decide) ?_
        exact ⟨_, rfl, by rw [f_X10_isWord, if_pos c1, if_pos c2, if_neg c3], rfl⟩
      · refine r_iconst (v := (1 : Int32)) dX10_isWord_24 (by decide) ?_
        refine r_goto (tgt := 29) dX10_isWord_25 (by decide) ?_
        refine r_iret dX10_isWord_29 rfl (by decide) ?_
        exact ⟨_, rfl, by rw [f_X10_isWord, if_pos c1, if_pos c2, if_pos c3], rfl⟩
theorem bz_X10_isWord (σ : MSt) (p1 : Int64) : narrow .boolean (.int (f_X10_isWord σ p1)) = .int (f_X10_isWord σ p1) := by
  unfold f_X10_isWord
  (repeat' split) <;> first | rfl | decide | apply bz_X10_in

def f_X10_isSign (σ : MSt) (p1 : Int32) : Int32 := (if (σ.1 34) = 0 then (if (σ.1 29) = (3 : Int32) then (if (lg_cmp σ.2.1 (Int32.toInt64 p1)) = 0 then (1 : Int32) else (0 : Int32)) else (0 : Int32)) else (0 : Int32))
set_option maxRecDepth 100000 in
set_option maxHeartbeats 1000000 in
theorem ok_X10_isSign {g : GC} {E : ME} {d : Nat} (hE : MEok E) (hd : 0 ≤ d) (σ : MSt) (p1 : Int32)  : MC g E d yX10_isSign cX10_isSign 2 (some FieldType.boolean) [.int p1] (fun v σ' => v = some (.int (f_X10_isSign σ p1)) ∧ σ' = σ) σ := by
  refine AM.of2 (own := RX10) (nm := "isSign") (L0 := [(0, .ref E.2.2), (1, .int p1)]) (by decide) rfl rfl (Nat.le_of_ble_eq_true rfl) rfl ?_
  refine r_aload_n dX10_isSign_0 rfl ?_
  refine m_get dX10_isSign_1 fl_RX10_281 rfl ?_
  refine r_if_ne (tgt := 29) dX10_isSign_4 (by decide) (fun c1 => ?_) (fun c1 => ?_)
  · refine r_iconst (v := (0 : Int32)) dX10_isSign_29 (by decide) ?_
    refine r_iret dX10_isSign_30 rfl (by decide) ?_
    exact ⟨_, rfl, by rw [f_X10_isSign, if_neg c1], rfl⟩
  · refine r_aload_n dX10_isSign_7 rfl ?_
    refine m_get dX10_isSign_8 fl_RX10_258 rfl ?_
    refine r_iconst (v := (3 : Int32)) dX10_isSign_11 (by decide) ?_
    refine r_icmp_ne (tgt := 29) dX10_isSign_12 (by decide) (fun c2 => ?_) (fun c2 => ?_)
    · refine r_iconst (v := (0 : Int32)) dX10_isSign_29 (by decide) ?_
      refine r_iret dX10_isSign_30 rfl (by decide) ?_
      exact ⟨_, rfl, by rw [f_X10_isSign, if_pos c1, if_neg c2], rfl⟩
    · refine r_aload_n dX10_isSign_15 rfl ?_
      refine m_get dX10_isSign_16 fl_RX10_265 rfl ?_
      refine r_iload_n dX10_isSign_19 rfl ?_
      refine r_i2l dX10_isSign_20 ?_
      refine r_lcmp dX10_isSign_21 ?_
      refine r_if_ne (tgt := 29) dX10_isSign_22 (by decide) (fun c3 => ?_) (fun c3 => ?_)
      · refine r_iconst (v := (0 : Int32)) dX10_isSign_29 (by decide) ?_
        refine r_iret dX10_isSign_30 rfl (by decide) ?_
        exact ⟨_, rfl, by rw [f_X10_isSign, if_pos c1, if_pos c2, if_neg c3], rfl⟩
      · refine r_iconst (v := (1 : Int32)) dX10_isSign_25 (by decide) ?_
        refine r_goto (tgt := 30) dX10_isSign_26 (by decide) ?_
        refine r_iret dX10_isSign_30 rfl (by decide) ?_
        exact ⟨_, rfl, by rw [f_X10_isSign, if_pos c1, if_pos c2, if_pos c3], rfl⟩
theorem bz_X10_isSign (σ : MSt) (p1 : Int32) : narrow .boolean (.int (f_X10_isSign σ p1)) = .int (f_X10_isSign σ p1) := by
  unfold f_X10_isSign
  (repeat' split) <;> first | rfl | decide | apply bz_X10_in

def f_X10_next_L107 : Nat → MSt → Int32 → Int32 → MSt
  | 0, σ, _, _ => σ
  | n + 1, σ, l1, l2 => (if (f_X10_in (Int32.toInt64 (f_X10_byteAt σ (σ.1 32))) (97 : Int64) (122 : Int64)) = 0 then σ else (if (8 : Int32) ≤ l2 then (f_X10_next_L107 n (mp (ml σ (-1 : Int64)) 32 (((ml σ (-1 : Int64)).1 32) + (1 : Int32))) l1 (l2 + (1 : Int32))) else (f_X10_next_L107 n (mp (ml σ ((((27 : Int64) * σ.2.1) + (Int32.toInt64 (f_X10_byteAt σ (σ.1 32)))) - (96 : Int64))) 32 (((ml σ ((((27 : Int64) * σ.2.1) + (Int32.toInt64 (f_X10_byteAt σ (σ.1 32)))) - (96 : Int64))).1 32) + (1 : Int32))) l1 (l2 + (1 : Int32)))))
set_option maxRecDepth 100000 in
set_option maxHeartbeats 1000000 in
theorem lp_X10_next_107 {g : GC} {E : ME} {d : Nat} {K : Option Value → MSt → Prop} (hE : MEok E) (hd : 1 ≤ d) : ∀ (fuel : Nat) (σ : MSt) (l1 : Int32) (l2 : Int32), PV (σ.1 27) (σ.1 28) (σ.1 32) → ((σ.1 28) - (σ.1 32)).toNatClampNeg < fuel → K none (f_X10_next_L107 fuel σ l1 l2) → MW g E cX10_next 3 none "next" d K 107 [(0, .ref E.2.2), (1, .int l1), (2, .int l2)] [] σ := by
  intro fuel
  induction fuel with
  | zero => intro σ l1 l2 i0 hm hK; exact absurd hm (Nat.not_lt_zero _)
  | succ n ih =>
    intro σ l1 l2 i0 hm hK
    refine r_aload_n dX10_next_107 rfl ?_
    refine r_aload_n dX10_next_108 rfl ?_
    refine m_get dX10_next_109 fl_RX10_249 rfl ?_
    refine m_callW dX10_next_112 mf_X10_byteAt ml_RX10_252 (ok_X10_byteAt (d := d - 1) hE (by omega) _ _ (by first | exact i0 | exact h0)) rfl rfl rfl (Nat.le_of_ble_eq_true rfl) (by omega) ?_
    refine r_i2l dX10_next_115 ?_
    refine r_ldc2 dX10_next_116 kc_RX10_261 ?_
    refine r_ldc2 dX10_next_119 kc_RX10_263 ?_
    refine m_callS dX10_next_122 mf_X10_in ml_RX10_149 (ok_X10_in (d := d - 1) (by omega) _ _ _) rfl rfl (Nat.le_of_ble_eq_true rfl) (by omega) ?_
    refine r_if_eq (tgt := 182) dX10_next_125 (by decide) (fun c17 => ?_) (fun c17 => ?_)
    · refine r_goto (tgt := 372) dX10_next_182 (by decide) ?_
      refine r_vret dX10_next_372 rfl ?_
      exact ⟨_, rfl, by rw [f_X10_next_L107, if_pos c17] at hK; exact hK⟩
    · refine r_aload_n dX10_next_128 rfl ?_
      refine r_iload_n dX10_next_129 rfl ?_
      refine r_bipush (v := (8 : Int32)) dX10_next_130 (by decide) ?_
      refine r_icmp_ge (tgt := 160) dX10_next_132 (by decide) (fun c18 => ?_) (fun c18 => ?_)
      · refine r_ldc2 dX10_next_160 kc_RX10_273 ?_
        refine m_putJ hE dX10_next_163 fp_RX10_265 ?_
        refine r_iinc2 (w := (1 : Int32)) dX10_next_166 rfl (by decide) (by decide) ?_
        refine r_aload_n dX10_next_169 rfl ?_
        refine r_dup dX10_next_170 rfl ?_
        refine m_get dX10_next_171 fl_RX10_249 rfl ?_
        refine r_iconst (v := (1 : Int32)) dX10_next_174 (by decide) ?_
        refine r_iadd dX10_next_175 ?_
        refine m_put hE dX10_next_176 fp_RX10_249 rfl rfl rfl (by decide) ?_
        refine r_goto (tgt := 107) dX10_next_179 (by decide) ?_
        refine r_loc (L' := [(0, .ref E.2.2), (1, .int l1), (2, .int (l2 + (1 : Int32)))]) [1, 2, 0] rfl ?_
        exact ih (mp (ml σ (-1 : Int64)) 32 (((ml σ (-1 : Int64)).1 32) + (1 : Int32)))  l1 (l2 + (1 : Int32)) (by exact (PV.step i0 (by first | exact byte_let (by with_reducible assumption) | exact byte_dig (by with_reducible assumption) | exact byte_32 (by with_reducible assumption) | exact byte_10 (by with_reducible assumption))).1) (by have u := (PV.step i0 (by first | exact byte_let (by with_reducible assumption) | exact byte_dig (by with_reducible assumption) | exact byte_32 (by with_reducible assumption) | exact byte_10 (by with_reducible assumption))).2; exact Nat.lt_of_lt_of_le u (Nat.le_of_lt_succ hm)) (by rw [f_X10_next_L107, if_neg c17, if_pos c18] at hK; exact hK)
      · refine r_ldc2 dX10_next_135 kc_RX10_269 ?_
        refine r_aload_n dX10_next_138 rfl ?_
        refine m_get dX10_next_139 fl_RX10_265 rfl ?_
        refine r_lmul dX10_next_142 ?_
        refine r_aload_n dX10_next_143 rfl ?_
        refine r_aload_n dX10_next_144 rfl ?_
        refine m_get dX10_next_145 fl_RX10_249 rfl ?_
        refine m_callW dX10_next_148 mf_X10_byteAt ml_RX10_252 (ok_X10_byteAt (d := d - 1) hE (by omega) _ _ (by first | exact i0 | exact h0)) rfl rfl rfl (Nat.le_of_ble_eq_true rfl) (by omega) ?_
        refine r_i2l dX10_next_151 ?_
        refine r_ladd dX10_next_152 ?_
        refine r_ldc2 dX10_next_153 kc_RX10_271 ?_
        refine r_lsub dX10_next_156 ?_
        refine r_goto (tgt := 163) dX10_next_157 (by decide) ?_
        refine m_putJ hE dX10_next_163 fp_RX10_265 ?_
        refine r_iinc2 (w := (1 : Int32)) dX10_next_166 rfl (by decide) (by decide) ?_
        refine r_aload_n dX10_next_169 rfl ?_
        refine r_dup dX10_next_170 rfl ?_
        refine m_get dX10_next_171 fl_RX10_249 rfl ?_
        refine r_iconst (v := (1 : Int32)) dX10_next_174 (by decide) ?_
        refine r_iadd dX10_next_175 ?_
        refine m_put hE dX10_next_176 fp_RX10_249 rfl rfl rfl (by decide) ?_
        refine r_goto (tgt := 107) dX10_next_179 (by decide) ?_
        refine r_loc (L' := [(0, .ref E.2.2), (1, .int l1), (2, .int (l2 + (1 : Int32)))]) [1, 2, 0] rfl ?_
        exact ih (mp (ml σ ((((27 : Int64) * σ.2.1) + (Int32.toInt64 (f_X10_byteAt σ (σ.1 32)))) - (96 : Int64))) 32 (((ml σ ((((27 : Int64) * σ.2.1) + (Int32.toInt64 (f_X10_byteAt σ (σ.1 32)))) - (96 : Int64))).1 32) + (1 : Int32)))  l1 (l2 + (1 : Int32)) (by exact (PV.step i0 (by first | exact byte_let (by with_reducible assumption) | exact byte_dig (by with_reducible assumption) | exact byte_32 (by with_reducible assumption) | exact byte_10 (by with_reducible assumption))).1) (by have u := (PV.step i0 (by first | exact byte_let (by with_reducible assumption) | exact byte_dig (by with_reducible assumption) | exact byte_32 (by with_reducible assumption) | exact byte_10 (by with_reducible assumption))).2; exact Nat.lt_of_lt_of_le u (Nat.le_of_lt_succ hm)) (by rw [f_X10_next_L107, if_neg c17, if_neg c18] at hK; exact hK)
def f_X10_next_L211 : Nat → MSt → Int32 → Int32 → MSt
  | 0, σ, _, _ => σ
  | n + 1, σ, l1, l2 => (if (f_X10_in (Int32.toInt64 (f_X10_byteAt σ (σ.1 32))) (48 : Int64) (57 : Int64)) = 0 then (if l2 ≤ (4 : Int32) then (mp σ 29 (2 : Int32)) else (mp σ 29 (4 : Int32))) else (if (4 : Int32) ≤ l2 then (f_X10_next_L211 n (mp (ml σ σ.2.1) 32 (((ml σ σ.2.1).1 32) + (1 : Int32))) l1 (l2 + (1 : Int32))) else (f_X10_next_L211 n (mp (ml σ ((((10 : Int64) * σ.2.1) + (Int32.toInt64 (f_X10_byteAt σ (σ.1 32)))) - (48 : Int64))) 32 (((ml σ ((((10 : Int64) * σ.2.1) + (Int32.toInt64 (f_X10_byteAt σ (σ.1 32)))) - (48 : Int64))).1 32) + (1 : Int32))) l1 (l2 + (1 : Int32)))))
set_option maxRecDepth 100000 in
set_option maxHeartbeats 1000000 in
theorem lp_X10_next_211 {g : GC} {E : ME} {d : Nat} {K : Option Value → MSt → Prop} (hE : MEok E) (hd : 1 ≤ d) : ∀ (fuel : Nat) (σ : MSt) (l1 : Int32) (l2 : Int32), PV (σ.1 27) (σ.1 28) (σ.1 32) → ((σ.1 28) - (σ.1 32)).toNatClampNeg < fuel → K none (f_X10_next_L211 fuel σ l1 l2) → MW g E cX10_next 3 none "next" d K 211 [(0, .ref E.2.2), (1, .int l1), (2, .int l2)] [] σ := by
  intro fuel
  induction fuel with
  | zero => intro σ l1 l2 i0 hm hK; exact absurd hm (Nat.not_lt_zero _)
  | succ n ih =>
    intro σ l1 l2 i0 hm hK
    refine r_aload_n dX10_next_211 rfl ?_
    refine r_aload_n dX10_next_212 rfl ?_
    refine m_get dX10_next_213 fl_RX10_249 rfl ?_
    refine m_callW dX10_next_216 mf_X10_byteAt ml_RX10_252 (ok_X10_byteAt (d := d - 1) hE (by omega) _ _ (by first | exact i0 | exact h0)) rfl rfl rfl (Nat.le_of_ble_eq_true rfl) (by omega) ?_
    refine r_i2l dX10_next_219 ?_
    refine r_ldc2 dX10_next_220 kc_RX10_275 ?_
    refine r_ldc2 dX10_next_223 kc_RX10_277 ?_
    refine m_callS dX10_next_226 mf_X10_in ml_RX10_149 (ok_X10_in (d := d - 1) (by omega) _ _ _) rfl rfl (Nat.le_of_ble_eq_true rfl) (by omega) ?_
    refine r_if_eq (tgt := 286) dX10_next_229 (by decide) (fun c14 => ?_) (fun c14 => ?_)
    · refine r_aload_n dX10_next_286 rfl ?_
      refine r_iload_n dX10_next_287 rfl ?_
      refine r_iconst (v := (4 : Int32)) dX10_next_288 (by decide) ?_
      refine r_icmp_le (tgt := 296) dX10_next_289 (by decide) (fun c15 => ?_) (fun c15 => ?_)
      · refine r_iconst (v := (2 : Int32)) dX10_next_296 (by decide) ?_
        refine m_put hE dX10_next_297 fp_RX10_258 rfl rfl rfl (by decide) ?_
        refine r_goto (tgt := 372) dX10_next_300 (by decide) ?_
        refine r_vret dX10_next_372 rfl ?_
        exact ⟨_, rfl, by rw [f_X10_next_L211, if_pos c14, if_pos c15] at hK; exact hK⟩
      · refine r_iconst (v := (4 : Int32)) dX10_next_292 (by decide) ?_
        refine r_goto (tgt := 297) dX10_next_293 (by decide) ?_
        refine m_put hE dX10_next_297 fp_RX10_258 rfl rfl rfl (by decide) ?_
        refine r_goto (tgt := 372) dX10_next_300 (by decide) ?_
        refine r_vret dX10_next_372 rfl ?_
        exact ⟨_, rfl, by rw [f_X10_next_L211, if_pos c14, if_neg c15] at hK; exact hK⟩
    · refine r_aload_n dX10_next_232 rfl ?_
      refine r_iload_n dX10_next_233 rfl ?_
      refine r_iconst (v := (4 : Int32)) dX10_next_234 (by decide) ?_
      refine r_icmp_ge (tgt := 263) dX10_next_235 (by decide) (fun c16 => ?_) (fun c16 => ?_)
      · refine r_aload_n dX10_next_263 rfl ?_
        refine m_get dX10_next_264 fl_RX10_265 rfl ?_
        refine m_putJ hE dX10_next_267 fp_RX10_265 ?_
        refine r_iinc2 (w := (1 : Int32)) dX10_next_270 rfl (by decide) (by decide) ?_
        refine r_aload_n dX10_next_273 rfl ?_
        refine r_dup dX10_next_274 rfl ?_
        refine m_get dX10_next_275 fl_RX10_249 rfl ?_
        refine r_iconst (v := (1 : Int32)) dX10_next_278 (by decide) ?_
        refine r_iadd dX10_next_279 ?_
        refine m_put hE dX10_next_280 fp_RX10_249 rfl rfl rfl (by decide) ?_
        refine r_goto (tgt := 211) dX10_next_283 (by decide) ?_
        refine r_loc (L' := [(0, .ref E.2.2), (1, .int l1), (2, .int (l2 + (1 : Int32)))]) [1, 2, 0] rfl ?_
        exact ih (mp (ml σ σ.2.1) 32 (((ml σ σ.2.1).1 32) + (1 : Int32)))  l1 (l2 + (1 : Int32)) (by exact (PV.step i0 (by first | exact byte_let (by with_reducible assumption) | exact byte_dig (by with_reducible assumption) | exact byte_32 (by with_reducible assumption) | exact byte_10 (by with_reducible assumption))).1) (by have u := (PV.step i0 (by first | exact byte_let (by with_reducible assumption) | exact byte_dig (by with_reducible assumption) | exact byte_32 (by with_reducible assumption) | exact byte_10 (by with_reducible assumption))).2; exact Nat.lt_of_lt_of_le u (Nat.le_of_lt_succ hm)) (by rw [f_X10_next_L211, if_neg c14, if_pos c16] at hK; exact hK)
      · refine r_ldc2 dX10_next_238 kc_RX10_279 ?_
        refine r_aload_n dX10_next_241 rfl ?_
        refine m_get dX10_next_242 fl_RX10_265 rfl ?_
        refine r_lmul dX10_next_245 ?_
        refine r_aload_n dX10_next_246 rfl ?_
        refine r_aload_n dX10_next_247 rfl ?_
        refine m_get dX10_next_248 fl_RX10_249 rfl ?_
        refine m_callW dX10_next_251 mf_X10_byteAt ml_RX10_252 (ok_X10_byteAt (d := d - 1) hE (by omega) _ _ (by first | exact i0 | exact h0)) rfl rfl rfl (Nat.le_of_ble_eq_true rfl) (by omega) ?_
        refine r_i2l dX10_next_254 ?_
        refine r_ladd dX10_next_255 ?_
        refine r_ldc2 dX10_next_256 kc_RX10_275 ?_
        refine r_lsub dX10_next_259 ?_
        refine r_goto (tgt := 267) dX10_next_260 (by decide) ?_
        refine m_putJ hE dX10_next_267 fp_RX10_265 ?_
        refine r_iinc2 (w := (1 : Int32)) dX10_next_270 rfl (by decide) (by decide) ?_
        refine r_aload_n dX10_next_273 rfl ?_
        refine r_dup dX10_next_274 rfl ?_
        refine m_get dX10_next_275 fl_RX10_249 rfl ?_
        refine r_iconst (v := (1 : Int32)) dX10_next_278 (by decide) ?_
        refine r_iadd dX10_next_279 ?_
        refine m_put hE dX10_next_280 fp_RX10_249 rfl rfl rfl (by decide) ?_
        refine r_goto (tgt := 211) dX10_next_283 (by decide) ?_
        refine r_loc (L' := [(0, .ref E.2.2), (1, .int l1), (2, .int (l2 + (1 : Int32)))]) [1, 2, 0] rfl ?_
        exact ih (mp (ml σ ((((10 : Int64) * σ.2.1) + (Int32.toInt64 (f_X10_byteAt σ (σ.1 32)))) - (48 : Int64))) 32 (((ml σ ((((10 : Int64) * σ.2.1) + (Int32.toInt64 (f_X10_byteAt σ (σ.1 32)))) - (48 : Int64))).1 32) + (1 : Int32)))  l1 (l2 + (1 : Int32)) (by exact (PV.step i0 (by first | exact byte_let (by with_reducible assumption) | exact byte_dig (by with_reducible assumption) | exact byte_32 (by with_reducible assumption) | exact byte_10 (by with_reducible assumption))).1) (by have u := (PV.step i0 (by first | exact byte_let (by with_reducible assumption) | exact byte_dig (by with_reducible assumption) | exact byte_32 (by with_reducible assumption) | exact byte_10 (by with_reducible assumption))).2; exact Nat.lt_of_lt_of_le u (Nat.le_of_lt_succ hm)) (by rw [f_X10_next_L211, if_neg c14, if_neg c16] at hK; exact hK)
def f_X10_next_L0 : Nat → MSt → MSt
  | 0, σ => σ
  | n + 1, σ => (if (f_X10_byteAt σ (σ.1 32)) = (32 : Int32) then (f_X10_next_L0 n (mp σ 32 ((σ.1 32) + (1 : Int32))) ) else (if (f_X10_byteAt σ (σ.1 32)) = (10 : Int32) then (f_X10_next_L0 n (mp σ 32 ((σ.1 32) + (1 : Int32))) ) else (if 0 ≤ (f_X10_byteAt (mp σ 30 (σ.1 32)) ((mp σ 30 (σ.1 32)).1 32)) then (if (f_X10_in (Int32.toInt64 (f_X10_byteAt (mp σ 30 (σ.1 32)) ((mp σ 30 (σ.1 32)).1 32))) (97 : Int64) (122 : Int64)) = 0 then (if (f_X10_in (Int32.toInt64 (f_X10_byteAt (mp σ 30 (σ.1 32)) ((mp σ 30 (σ.1 32)).1 32))) (48 : Int64) (57 : Int64)) = 0 then (if (f_X10_byteAt (mp σ 30 (σ.1 32)) ((mp σ 30 (σ.1 32)).1 32)) = (40 : Int32) then (mp (ml (mp (mp (mp σ 30 (σ.1 32)) 29 (4 : Int32)) 29 (3 : Int32)) (Int32.toInt64 (f_X10_byteAt (mp σ 30 (σ.1 32)) ((mp σ 30 (σ.1 32)).1 32)))) 32 (((ml (mp (mp (mp σ 30 (σ.1 32)) 29 (4 : Int32)) 29 (3 : Int32)) (Int32.toInt64 (f_X10_byteAt (mp σ 30 (σ.1 32)) ((mp σ 30 (σ.1 32)).1 32)))).1 32) + (1 : Int32))) else (if (f_X10_byteAt (mp σ 30 (σ.1 32)) ((mp σ 30 (σ.1 32)).1 32)) = (41 : Int32) then (mp (ml (mp (mp (mp σ 30 (σ.1 32)) 29 (4 : Int32)) 29 (3 : Int32)) (Int32.toInt64 (f_X10_byteAt (mp σ 30 (σ.1 32)) ((mp σ 30 (σ.1 32)).1 32)))) 32 (((ml (mp (mp (mp σ 30 (σ.1 32)) 29 (4 : Int32)) 29 (3 : Int32)) (Int32.toInt64 (f_X10_byteAt (mp σ 30 (σ.1 32)) ((mp σ 30 (σ.1 32)).1 32)))).1 32) + (1 : Int32))) else (if (f_X10_byteAt (mp σ 30 (σ.1 32)) ((mp σ 30 (σ.1 32)).1 32)) = (59 : Int32) then (mp (ml (mp (mp (mp σ 30 (σ.1 32)) 29 (4 : Int32)) 29 (3 : Int32)) (Int32.toInt64 (f_X10_byteAt (mp σ 30 (σ.1 32)) ((mp σ 30 (σ.1 32)).1 32)))) 32 (((ml (mp (mp (mp σ 30 (σ.1 32)) 29 (4 : Int32)) 29 (3 : Int32)) (Int32.toInt64 (f_X10_byteAt (mp σ 30 (σ.1 32)) ((mp σ 30 (σ.1 32)).1 32)))).1 32) + (1 : Int32))) else (if (f_X10_byteAt (mp σ 30 (σ.1 32)) ((mp σ 30 (σ.1 32)).1 32)) = (43 : Int32) then (mp (ml (mp (mp (mp σ 30 (σ.1 32)) 29 (4 : Int32)) 29 (3 : Int32)) (Int32.toInt64 (f_X10_byteAt (mp σ 30 (σ.1 32)) ((mp σ 30 (σ.1 32)).1 32)))) 32 (((ml (mp (mp (mp σ 30 (σ.1 32)) 29 (4 : Int32)) 29 (3 : Int32)) (Int32.toInt64 (f_X10_byteAt (mp σ 30 (σ.1 32)) ((mp σ 30 (σ.1 32)).1 32)))).1 32) + (1 : Int32))) else (if (f_X10_byteAt (mp σ 30 (σ.1 32)) ((mp σ 30 (σ.1 32)).1 32)) = (45 : Int32) then (mp (ml (mp (mp (mp σ 30 (σ.1 32)) 29 (4 : Int32)) 29 (3 : Int32)) (Int32.toInt64 (f_X10_byteAt (mp σ 30 (σ.1 32)) ((mp σ 30 (σ.1 32)).1 32)))) 32 (((ml (mp (mp (mp σ 30 (σ.1 32)) 29 (4 : Int32)) 29 (3 : Int32)) (Int32.toInt64 (f_X10_byteAt (mp σ 30 (σ.1 32)) ((mp σ 30 (σ.1 32)).1 32)))).1 32) + (1 : Int32))) else (if (f_X10_byteAt (mp σ 30 (σ.1 32)) ((mp σ 30 (σ.1 32)).1 32)) = (42 : Int32) then (mp (ml (mp (mp (mp σ 30 (σ.1 32)) 29 (4 : Int32)) 29 (3 : Int32)) (Int32.toInt64 (f_X10_byteAt (mp σ 30 (σ.1 32)) ((mp σ 30 (σ.1 32)).1 32)))) 32 (((ml (mp (mp (mp σ 30 (σ.1 32)) 29 (4 : Int32)) 29 (3 : Int32)) (Int32.toInt64 (f_X10_byteAt (mp σ 30 (σ.1 32)) ((mp σ 30 (σ.1 32)).1 32)))).1 32) + (1 : Int32))) else (if (f_X10_byteAt (mp σ 30 (σ.1 32)) ((mp σ 30 (σ.1 32)).1 32)) = (60 : Int32) then (mp (ml (mp (mp (mp σ 30 (σ.1 32)) 29 (4 : Int32)) 29 (3 : Int32)) (Int32.toInt64 (f_X10_byteAt (mp σ 30 (σ.1 32)) ((mp σ 30 (σ.1 32)).1 32)))) 32 (((ml (mp (mp (mp σ 30 (σ.1 32)) 29 (4 : Int32)) 29 (3 : Int32)) (Int32.toInt64 (f_X10_byteAt (mp σ 30 (σ.1 32)) ((mp σ 30 (σ.1 32)).1 32)))).1 32) + (1 : Int32))) else (if (f_X10_byteAt (mp σ 30 (σ.1 32)) ((mp σ 30 (σ.1 32)).1 32)) = (61 : Int32) then (mp (ml (mp (mp (mp σ 30 (σ.1 32)) 29 (4 : Int32)) 29 (3 : Int32)) (Int32.toInt64 (f_X10_byteAt (mp σ 30 (σ.1 32)) ((mp σ 30 (σ.1 32)).1 32)))) 32 (((ml (mp (mp (mp σ 30 (σ.1 32)) 29 (4 : Int32)) 29 (3 : Int32)) (Int32.toInt64 (f_X10_byteAt (mp σ 30 (σ.1 32)) ((mp σ 30 (σ.1 32)).1 32)))).1 32) + (1 : Int32))) else (mp (mp σ 30 (σ.1 32)) 29 (4 : Int32)))))))))) else (f_X10_next_L211 (162) (ml (mp (mp (mp σ 30 (σ.1 32)) 29 (4 : Int32)) 29 (2 : Int32)) (0 : Int64)) (f_X10_byteAt (mp σ 30 (σ.1 32)) ((mp σ 30 (σ.1 32)).1 32)) (0 : Int32))) else (f_X10_next_L107 (162) (ml (mp (mp (mp σ 30 (σ.1 32)) 29 (4 : Int32)) 29 (1 : Int32)) (0 : Int64)) (f_X10_byteAt (mp σ 30 (σ.1 32)) ((mp σ 30 (σ.1 32)).1 32)) (0 : Int32))) else (mp (mp (mp (mp σ 30 (σ.1 32)) 29 (4 : Int32)) 29 (0 : Int32)) 30 ((mp (mp (mp σ 30 (σ.1 32)) 29 (4 : Int32)) 29 (0 : Int32)).1 28)))))
set_option maxRecDepth 100000 in
set_option maxHeartbeats 1000000 in
theorem lp_X10_next_0 {g : GC} {E : ME} {d : Nat} {K : Option Value → MSt → Prop} (hE : MEok E) (hd : 1 ≤ d) : ∀ (fuel : Nat) (σ : MSt), PV (σ.1 27) (σ.1 28) (σ.1 32) → ((σ.1 28) - (σ.1 32)).toNatClampNeg < fuel → K none (f_X10_next_L0 fuel σ ) → MW g E cX10_next 3 none "next" d K 0 [(0, .ref E.2.2)] [] σ := by
  intro fuel
  induction fuel with
  | zero => intro σ  i0 hm hK; exact absurd hm (Nat.not_lt_zero _)
  | succ n ih =>
    intro σ  i0 hm hK
    refine r_aload_n dX10_next_0 rfl ?_
    refine r_aload_n dX10_next_1 rfl ?_
    refine m_get dX10_next_2 fl_RX10_249 rfl ?_
    refine m_callW dX10_next_5 mf_X10_byteAt ml_RX10_252 (ok_X10_byteAt (d := d - 1) hE (by omega) _ _ (by first | exact i0 | exact h0)) rfl rfl rfl (Nat.le_of_ble_eq_true rfl) (by omega) ?_
    refine r_bipush (v := (32 : Int32)) dX10_next_8 (by decide) ?_
    refine r_icmp_eq (tgt := 26) dX10_next_10 (by decide) (fun c1 => ?_) (fun c1 => ?_)
    · refine r_aload_n dX10_next_26 rfl ?_
      refine r_dup dX10_next_27 rfl ?_
      refine m_get dX10_next_28 fl_RX10_249 rfl ?_
      refine r_iconst (v := (1 : Int32)) dX10_next_31 (by decide) ?_
      refine r_iadd dX10_next_32 ?_
      refine m_put hE dX10_next_33 fp_RX10_249 rfl rfl rfl (by decide) ?_
      refine r_goto (tgt := 0) dX10_next_36 (by decide) ?_
      refine r_loc (L' := [(0, .ref E.2.2)]) [0] rfl ?_
      exact ih (mp σ 32 ((σ.1 32) + (1 : Int32)))   (by exact (PV.step i0 (by first | exact byte_let (by with_reducible assumption) | exact byte_dig (by with_reducible assumption) | exact byte_32 (by with_reducible assumption) | exact byte_10 (by with_reducible assumption))).1) (by have u := (PV.step i0 (by first | exact byte_let (by with_reducible assumption) | exact byte_dig (by with_reducible assumption) | exact byte_32 (by with_reducible assumption) | exact byte_10 (by with_reducible assumption))).2; exact Nat.lt_of_lt_of_le u (Nat.le_of_lt_succ hm)) (by rw [f_X10_next_L0, if_pos c1] at hK; exact hK)
    · refine r_aload_n dX10_next_13 rfl ?_
      refine r_aload_n dX10_next_14 rfl ?_
      refine m_get dX10_next_15 fl_RX10_249 rfl ?_
      refine m_callW dX10_next_18 mf_X10_byteAt ml_RX10_252 (ok_X10_byteAt (d := d - 1) hE (by omega) _ _ (by first | exact i0 | exact h0)) rfl rfl rfl (Nat.le_of_ble_eq_true rfl) (by omega) ?_
      refine r_bipush (v := (10 : Int32)) dX10_next_21 (by decide) ?_
      refine r_icmp_ne (tgt := 39) dX10_next_23 (by decide) (fun c2 => ?_) (fun c2 => ?_)
      · refine r_aload_n dX10_next_39 rfl ?_
        refine r_aload_n dX10_next_40 rfl ?_
        refine m_get dX10_next_41 fl_RX10_249 rfl ?_
        refine m_put hE dX10_next_44 fp_RX10_255 rfl rfl rfl (by decide) ?_
        refine r_aload_n dX10_next_47 rfl ?_
        refine r_aload_n dX10_next_48 rfl ?_
        refine m_get dX10_next_49 fl_RX10_249 rfl ?_
        refine m_callW dX10_next_52 mf_X10_byteAt ml_RX10_252 (ok_X10_byteAt (d := d - 1) hE (by omega) _ _ (by first | exact i0 | exact h0)) rfl rfl rfl (Nat.le_of_ble_eq_true rfl) (by omega) ?_
        refine r_istore_n dX10_next_55 (by decide) ?_
        refine r_aload_n dX10_next_56 rfl ?_
        refine r_iconst (v := (4 : Int32)) dX10_next_57 (by decide) ?_
        refine m_put hE dX10_next_58 fp_RX10_258 rfl rfl rfl (by decide) ?_
        refine r_iload_n dX10_next_61 rfl ?_
        refine r_if_ge (tgt := 81) dX10_next_62 (by decide) (fun c3 => ?_) (fun c3 => ?_)
        · refine r_iload_n dX10_next_81 rfl ?_
          refine r_i2l dX10_next_82 ?_
          refine r_ldc2 dX10_next_83 kc_RX10_261 ?_
          refine r_ldc2 dX10_next_86 kc_RX10_263 ?_
          refine m_callS dX10_next_89 mf_X10_in ml_RX10_149 (ok_X10_in (d := d - 1) (by omega) _ _ _) rfl rfl (Nat.le_of_ble_eq_true rfl) (by omega) ?_
          refine r_if_eq (tgt := 185) dX10_next_92 (by decide) (fun c4 => ?_) (fun c4 => ?_)
          · refine r_iload_n dX10_next_185 rfl ?_
            refine r_i2l dX10_next_186 ?_
            refine r_ldc2 dX10_next_187 kc_RX10_275 ?_
            refine r_ldc2 dX10_next_190 kc_RX10_277 ?_
            refine m_callS dX10_next_193 mf_X10_in ml_RX10_149 (ok_X10_in (d := d - 1) (by omega) _ _ _) rfl rfl (Nat.le_of_ble_eq_true rfl) (by omega) ?_
            refine r_if_eq (tgt := 303) dX10_next_196 (by decide) (fun c5 => ?_) (fun c5 => ?_)
            · refine r_iload_n dX10_next_303 rfl ?_
              refine r_bipush (v := (40 : Int32)) dX10_next_304 (by decide) ?_
              refine r_icmp_eq (tgt := 351) dX10_next_306 (by decide) (fun c6 => ?_) (fun c6 => ?_)
              · refine r_aload_n dX10_next_351 rfl ?_
                refine r_iconst (v := (3 : Int32)) dX10_next_352 (by decide) ?_
                refine m_put hE dX10_next_353 fp_RX10_258 rfl rfl rfl (by decide) ?_
                refine r_aload_n dX10_next_356 rfl ?_
                refine r_iload_n dX10_next_357 rfl ?_
                refine r_i2l dX10_next_358 ?_
                refine m_putJ hE dX10_next_359 fp_RX10_265 ?_
                refine r_aload_n dX10_next_362 rfl ?_
                refine r_dup dX10_next_363 rfl ?_
                refine m_get dX10_next_364 fl_RX10_249 rfl ?_
                refine r_iconst (v := (1 : Int32)) dX10_next_367 (by decide) ?_
                refine r_iadd dX10_next_368 ?_
                refine m_put hE dX10_next_369 fp_RX10_249 rfl rfl rfl (by decide) ?_
                refine r_vret dX10_next_372 rfl ?_
                exact ⟨_, rfl, by rw [f_X10_next_L0, if_neg c1, if_neg c2, if_pos c3, if_pos c4, if_pos c5, if_pos c6] at hK; exact hK⟩
              · refine r_iload_n dX10_next_309 rfl ?_
                refine r_bipush (v := (41 : Int32)) dX10_next_310 (by decide) ?_
                refine r_icmp_eq (tgt := 351) dX10_next_312 (by decide) (fun c7 => ?_) (fun c7 => ?_)
                · refine r_aload_n dX10_next_351 rfl ?_
                  refine r_iconst (v := (3 : Int32)) dX10_next_352 (by decide) ?_
                  refine m_put hE dX10_next_353 fp_RX10_258 rfl rfl rfl (by decide) ?_
                  refine r_aload_n dX10_next_356 rfl ?_
                  refine r_iload_n dX10_next_357 rfl ?_
                  refine r_i2l dX10_next_358 ?_
                  refine m_putJ hE dX10_next_359 fp_RX10_265 ?_
                  refine r_aload_n dX10_next_362 rfl ?_
                  refine r_dup dX10_next_363 rfl ?_
                  refine m_get dX10_next_364 fl_RX10_249 rfl ?_
                  refine r_iconst (v := (1 : Int32)) dX10_next_367 (by decide) ?_
                  refine r_iadd dX10_next_368 ?_
                  refine m_put hE dX10_next_369 fp_RX10_249 rfl rfl rfl (by decide) ?_
                  refine r_vret dX10_next_372 rfl ?_
                  exact ⟨_, rfl, by rw [f_X10_next_L0, if_neg c1, if_neg c2, if_pos c3, if_pos c4, if_pos c5, if_neg c6, if_pos c7] at hK; exact hK⟩
                · refine r_iload_n dX10_next_315 rfl ?_
                  refine r_bipush (v := (59 : Int32)) dX10_next_316 (by decide) ?_
                  refine r_icmp_eq (tgt := 351) dX10_next_318 (by decide) (fun c8 => ?_) (fun c8 => ?_)
                  · refine r_aload_n dX10_next_351 rfl ?_
                    refine r_iconst (v := (3 : Int32)) dX10_next_352 (by decide) ?_
                    refine m_put hE dX10_next_353 fp_RX10_258 rfl rfl rfl (by decide) ?_
                    refine r_aload_n dX10_next_356 rfl ?_
                    refine r_iload_n dX10_next_357 rfl ?_
                    refine r_i2l dX10_next_358 ?_
                    refine m_putJ hE dX10_next_359 fp_RX10_265 ?_
                    refine r_aload_n dX10_next_362 rfl ?_
                    refine r_dup dX10_next_363 rfl ?_
                    refine m_get dX10_next_364 fl_RX10_249 rfl ?_
                    refine r_iconst (v := (1 : Int32)) dX10_next_367 (by decide) ?_
                    refine r_iadd dX10_next_368 ?_
                    refine m_put hE dX10_next_369 fp_RX10_249 rfl rfl rfl (by decide) ?_
                    refine r_vret dX10_next_372 rfl ?_
                    exact ⟨_, rfl, by rw [f_X10_next_L0, if_neg c1, if_neg c2, if_pos c3, if_pos c4, if_pos c5, if_neg c6, if_neg c7, if_pos c8] at hK; exact hK⟩
                  · refine r_iload_n dX10_next_321 rfl ?_
                    refine r_bipush (v := (43 : Int32)) dX10_next_322 (by decide) ?_
                    refine r_icmp_eq (tgt := 351) dX10_next_324 (by decide) (fun c9 => ?_) (fun c9 => ?_)
                    · refine r_aload_n dX10_next_351 rfl ?_
                      refine r_iconst (v := (3 : Int32)) dX10_next_352 (by decide) ?_
                      refine m_put hE dX10_next_353 fp_RX10_258 rfl rfl rfl (by decide) ?_
                      refine r_aload_n dX10_next_356 rfl ?_
                      refine r_iload_n dX10_next_357 rfl ?_
                      refine r_i2l dX10_next_358 ?_
                      refine m_putJ hE dX10_next_359 fp_RX10_265 ?_
                      refine r_aload_n dX10_next_362 rfl ?_
                      refine r_dup dX10_next_363 rfl ?_
                      refine m_get dX10_next_364 fl_RX10_249 rfl ?_
                      refine r_iconst (v := (1 : Int32)) dX10_next_367 (by decide) ?_
                      refine r_iadd dX10_next_368 ?_
                      refine m_put hE dX10_next_369 fp_RX10_249 rfl rfl rfl (by decide) ?_
                      refine r_vret dX10_next_372 rfl ?_
                      exact ⟨_, rfl, by rw [f_X10_next_L0, if_neg c1, if_neg c2, if_pos c3, if_pos c4, if_pos c5, if_neg c6, if_neg c7, if_neg c8, if_pos c9] at hK; exact hK⟩
                    · refine r_iload_n dX10_next_327 rfl ?_
                      refine r_bipush (v := (45 : Int32)) dX10_next_328 (by decide) ?_
                      refine r_icmp_eq (tgt := 351) dX10_next_330 (by decide) (fun c10 => ?_) (fun c10 => ?_)
                      · refine r_aload_n dX10_next_351 rfl ?_
                        refine r_iconst (v := (3 : Int32)) dX10_next_352 (by decide) ?_
                        refine m_put hE dX10_next_353 fp_RX10_258 rfl rfl rfl (by decide) ?_
                        refine r_aload_n dX10_next_356 rfl ?_
                        refine r_iload_n dX10_next_357 rfl ?_
                        refine r_i2l dX10_next_358 ?_
                        refine m_putJ hE dX10_next_359 fp_RX10_265 ?_
                        refine r_aload_n dX10_next_362 rfl ?_
                        refine r_dup dX10_next_363 rfl ?_
                        refine m_get dX10_next_364 fl_RX10_249 rfl ?_
                        refine r_iconst (v := (1 : Int32)) dX10_next_367 (by decide) ?_
                        refine r_iadd dX10_next_368 ?_
                        refine m_put hE dX10_next_369 fp_RX10_249 rfl rfl rfl (by decide) ?_
                        refine r_vret dX10_next_372 rfl ?_
                        exact ⟨_, rfl, by rw [f_X10_next_L0, if_neg c1, if_neg c2, if_pos c3, if_pos c4, if_pos c5, if_neg c6, if_neg c7, if_neg c8, if_neg c9, if_pos c10] at hK; exact hK⟩
                      · refine r_iload_n dX10_next_333 rfl ?_
                        refine r_bipush (v := (42 : Int32)) dX10_next_334 (by decide) ?_
                        refine r_icmp_eq (tgt := 351) dX10_next_336 (by decide) (fun c11 => ?_) (fun c11 => ?_)
                        · refine r_aload_n dX10_next_351 rfl ?_
                          refine r_iconst (v := (3 : Int32)) dX10_next_352 (by decide) ?_
                          refine m_put hE dX10_next_353 fp_RX10_258 rfl rfl rfl (by decide) ?_
                          refine r_aload_n dX10_next_356 rfl ?_
                          refine r_iload_n dX10_next_357 rfl ?_
                          refine r_i2l dX10_next_358 ?_
                          refine m_putJ hE dX10_next_359 fp_RX10_265 ?_
                          refine r_aload_n dX10_next_362 rfl ?_
                          refine r_dup dX10_next_363 rfl ?_
                          refine m_get dX10_next_364 fl_RX10_249 rfl ?_
                          refine r_iconst (v := (1 : Int32)) dX10_next_367 (by decide) ?_
                          refine r_iadd dX10_next_368 ?_
                          refine m_put hE dX10_next_369 fp_RX10_249 rfl rfl rfl (by decide) ?_
                          refine r_vret dX10_next_372 rfl ?_
                          exact ⟨_, rfl, by rw [f_X10_next_L0, if_neg c1, if_neg c2, if_pos c3, if_pos c4, if_pos c5, if_neg c6, if_neg c7, if_neg c8, if_neg c9, if_neg c10, if_pos c11] at hK; exact hK⟩
                        · refine r_iload_n dX10_next_339 rfl ?_
                          refine r_bipush (v := (60 : Int32)) dX10_next_340 (by decide) ?_
                          refine r_icmp_eq (tgt := 351) dX10_next_342 (by decide) (fun c12 => ?_) (fun c12 => ?_)
                          · refine r_aload_n dX10_next_351 rfl ?_
                            refine r_iconst (v := (3 : Int32)) dX10_next_352 (by decide) ?_
                            refine m_put hE dX10_next_353 fp_RX10_258 rfl rfl rfl (by decide) ?_
                            refine r_aload_n dX10_next_356 rfl ?_
                            refine r_iload_n dX10_next_357 rfl ?_
                            refine r_i2l dX10_next_358 ?_
                            refine m_putJ hE dX10_next_359 fp_RX10_265 ?_
                            refine r_aload_n dX10_next_362 rfl ?_
                            refine r_dup dX10_next_363 rfl ?_
                            refine m_get dX10_next_364 fl_RX10_249 rfl ?_
                            refine r_iconst (v := (1 : Int32)) dX10_next_367 (by decide) ?_
                            refine r_iadd dX10_next_368 ?_
                            refine m_put hE dX10_next_369 fp_RX10_249 rfl rfl rfl (by decide) ?_
                            refine r_vret dX10_next_372 rfl ?_
                            exact ⟨_, rfl, by rw [f_X10_next_L0, if_neg c1, if_neg c2, if_pos c3, if_pos c4, if_pos c5, if_neg c6, if_neg c7, if_neg c8, if_neg c9, if_neg c10, if_neg c11, if_pos c12] at hK; exact hK⟩
                          · refine r_iload_n dX10_next_345 rfl ?_
                            refine r_bipush (v := (61 : Int32)) dX10_next_346 (by decide) ?_
                            refine r_icmp_ne (tgt := 372) dX10_next_348 (by decide) (fun c13 => ?_) (fun c13 => ?_)
                            · refine r_vret dX10_next_372 rfl ?_
                              exact ⟨_, rfl, by rw [f_X10_next_L0, if_neg c1, if_neg c2, if_pos c3, if_pos c4, if_pos c5, if_neg c6, if_neg c7, if_neg c8, if_neg c9, if_neg c10, if_neg c11, if_neg c12, if_neg c13] at hK; exact hK⟩
                            · refine r_aload_n dX10_next_351 rfl ?_
                              refine r_iconst (v := (3 : Int32)) dX10_next_352 (by decide) ?_
                              refine m_put hE dX10_next_353 fp_RX10_258 rfl rfl rfl (by decide) ?_
                              refine r_aload_n dX10_next_356 rfl ?_
                              refine r_iload_n dX10_next_357 rfl ?_
                              refine r_i2l dX10_next_358 ?_
                              refine m_putJ hE dX10_next_359 fp_RX10_265 ?_
                              refine r_aload_n dX10_next_362 rfl ?_
                              refine r_dup dX10_next_363 rfl ?_
                              refine m_get dX10_next_364 fl_RX10_249 rfl ?_
                              refine r_iconst (v := (1 : Int32)) dX10_next_367 (by decide) ?_
                              refine r_iadd dX10_next_368 ?_
                              refine m_put hE dX10_next_369 fp_RX10_249 rfl rfl rfl (by decide) ?_
                              refine r_vret dX10_next_372 rfl ?_
                              exact ⟨_, rfl, by rw [f_X10_next_L0, if_neg c1, if_neg c2, if_pos c3, if_pos c4, if_pos c5, if_neg c6, if_neg c7, if_neg c8, if_neg c9, if_neg c10, if_neg c11, if_neg c12, if_pos c13] at hK; exact hK⟩
            · refine r_aload_n dX10_next_199 rfl ?_
              refine r_iconst (v := (2 : Int32)) dX10_next_200 (by decide) ?_
              refine m_put hE dX10_next_201 fp_RX10_258 rfl rfl rfl (by decide) ?_
              refine r_aload_n dX10_next_204 rfl ?_
              refine r_lconst (v := (0 : Int64)) dX10_next_205 (by decide) ?_
              refine m_putJ hE dX10_next_206 fp_RX10_265 ?_
              refine r_iconst (v := (0 : Int32)) dX10_next_209 (by decide) ?_
              refine r_istore_n dX10_next_210 (by decide) ?_
              refine r_loc (L' := [(0, .ref E.2.2), (1, .int (f_X10_byteAt (mp σ 30 (σ.1 32)) ((mp σ 30 (σ.1 32)).1 32))), (2, .int (0 : Int32))]) [2, 1, 0] rfl ?_
              exact lp_X10_next_211 hE (by omega) (162) (ml (mp (mp (mp σ 30 (σ.1 32)) 29 (4 : Int32)) 29 (2 : Int32)) (0 : Int64)) (f_X10_byteAt (mp σ 30 (σ.1 32)) ((mp σ 30 (σ.1 32)).1 32)) (0 : Int32) (by first | exact i0 | exact h0) (PV.m (by first | exact i0 | exact h0)) (by rw [f_X10_next_L0, if_neg c1, if_neg c2, if_pos c3, if_pos c4, if_neg c5] at hK; exact hK)
          · refine r_aload_n dX10_next_95 rfl ?_
            refine r_iconst (v := (1 : Int32)) dX10_next_96 (by decide) ?_
            refine m_put hE dX10_next_97 fp_RX10_258 rfl rfl rfl (by decide) ?_
            refine r_aload_n dX10_next_100 rfl ?_
            refine r_lconst (v := (0 : Int64)) dX10_next_101 (by decide) ?_
            refine m_putJ hE dX10_next_102 fp_RX10_265 ?_
            refine r_iconst (v := (0 : Int32)) dX10_next_105 (by decide) ?_
            refine r_istore_n dX10_next_106 (by decide) ?_
            refine r_loc (L' := [(0, .ref E.2.2), (1, .int (f_X10_byteAt (mp σ 30 (σ.1 32)) ((mp σ 30 (σ.1 32)).1 32))), (2, .int (0 : Int32))]) [2, 1, 0] rfl ?_
            exact lp_X10_next_107 hE (by omega) (162) (ml (mp (mp (mp σ 30 (σ.1 32)) 29 (4 : Int32)) 29 (1 : Int32)) (0 : Int64)) (f_X10_byteAt (mp σ 30 (σ.1 32)) ((mp σ 30 (σ.1 32)).1 32)) (0 : Int32) (by first | exact i0 | exact h0) (PV.m (by first | exact i0 | exact h0)) (by rw [f_X10_next_L0, if_neg c1, if_neg c2, if_pos c3, if_neg c4] at hK; exact hK)
        · refine r_aload_n dX10_next_65 rfl ?_
          refine r_iconst (v := (0 : Int32)) dX10_next_66 (by decide) ?_
          refine m_put hE dX10_next_67 fp_RX10_258 rfl rfl rfl (by decide) ?_
          refine r_aload_n dX10_next_70 rfl ?_
          refine r_aload_n dX10_next_71 rfl ?_
          refine m_get dX10_next_72 fl_RX10_243 rfl ?_
          refine m_put hE dX10_next_75 fp_RX10_255 rfl rfl rfl (by decide) ?_
          refine r_goto (tgt := 372) dX10_next_78 (by decide) ?_
          refine r_vret dX10_next_372 rfl ?_
          exact ⟨_, rfl, by rw [f_X10_next_L0, if_neg c1, if_neg c2, if_neg c3] at hK; exact hK⟩
      · refine r_aload_n dX10_next_26 rfl ?_
        refine r_dup dX10_next_27 rfl ?_
        refine m_get dX10_next_28 fl_RX10_249 rfl ?_
        refine r_iconst (v := (1 : Int32)) dX10_next_31 (by decide) ?_
        refine r_iadd dX10_next_32 ?_
        refine m_put hE dX10_next_33 fp_RX10_249 rfl rfl rfl (by decide) ?_
        refine r_goto (tgt := 0) dX10_next_36 (by decide) ?_
        refine r_loc (L' := [(0, .ref E.2.2)]) [0] rfl ?_
        exact ih (mp σ 32 ((σ.1 32) + (1 : Int32)))   (by exact (PV.step i0 (by first | exact byte_let (by with_reducible assumption) | exact byte_dig (by with_reducible assumption) | exact byte_32 (by with_reducible assumption) | exact byte_10 (by with_reducible assumption))).1) (by have u := (PV.step i0 (by first | exact byte_let (by with_reducible assumption) | exact byte_dig (by with_reducible assumption) | exact byte_32 (by with_reducible assumption) | exact byte_10 (by with_reducible assumption))).2; exact Nat.lt_of_lt_of_le u (Nat.le_of_lt_succ hm)) (by rw [f_X10_next_L0, if_neg c1, if_pos c2] at hK; exact hK)
def f_X10_next (σ : MSt)  : MSt := (f_X10_next_L0 (162) σ )
set_option maxRecDepth 100000 in
set_option maxHeartbeats 1000000 in
theorem ok_X10_next {g : GC} {E : ME} {d : Nat} (hE : MEok E) (hd : 1 ≤ d) (σ : MSt)  (h0 : PV (σ.1 27) (σ.1 28) (σ.1 32)) : MC g E d yX10_next cX10_next 3 none [] (fun v σ' => v = none ∧ σ' = (f_X10_next σ )) σ := by
  refine AM.of2 (own := RX10) (nm := "next") (L0 := [(0, .ref E.2.2)]) (by decide) rfl rfl (Nat.le_of_ble_eq_true rfl) rfl ?_
  refine r_loc (L' := [(0, .ref E.2.2)]) [0] rfl ?_
  exact lp_X10_next_0 hE (by omega) (162) σ  (by first | exact i0 | exact h0) (PV.m (by first | exact i0 | exact h0)) ⟨by rfl, by rw [f_X10_next]⟩

def f_X10_opens (σ : MSt)  : Int32 × MSt := (if (σ.1 33) = (5 : Int32) then ((0 : Int32), (f_X10_fail σ)) else ((1 : Int32), (f_X10_next (mp σ 33 ((σ.1 33) + (1 : Int32))))))
set_option maxRecDepth 100000 in
set_option maxHeartbeats 1000000 in
theorem ok_X10_opens {g : GC} {E : ME} {d : Nat} (hE : MEok E) (hd : 2 ≤ d) (σ : MSt)  (h0 : PV (σ.1 27) (σ.1 28) (σ.1 32)) : MC g E d yX10_opens cX10_opens 1 (some FieldType.boolean) [] (fun v σ' => v = some (.int (f_X10_opens σ ).1) ∧ σ' = (f_X10_opens σ ).2) σ := by
  refine AM.of2 (own := RX10) (nm := "opens") (L0 := [(0, .ref E.2.2)]) (by decide) rfl rfl (Nat.le_of_ble_eq_true rfl) rfl ?_
  refine r_aload_n dX10_opens_0 rfl ?_
  refine m_get dX10_opens_1 fl_RX10_288 rfl ?_
  refine r_iconst (v := (5 : Int32)) dX10_opens_4 (by decide) ?_
  refine r_icmp_ne (tgt := 14) dX10_opens_5 (by decide) (fun c1 => ?_) (fun c1 => ?_)
  · refine r_aload_n dX10_opens_14 rfl ?_
    refine r_dup dX10_opens_15 rfl ?_
    refine m_get dX10_opens_16 fl_RX10_288 rfl ?_
    refine r_iconst (v := (1 : Int32)) dX10_opens_19 (by decide) ?_
    refine r_iadd dX10_opens_20 ?_
    refine m_put hE dX10_opens_21 fp_RX10_288 rfl rfl rfl (by decide) ?_
    refine r_aload_n dX10_opens_24 rfl ?_
    refine m_callV0 dX10_opens_25 mf_X10_next ml_RX10_294 (ok_X10_next (d := d - 1) hE (by omega) _  (by exact h0)) rfl rfl rfl (Nat.le_of_ble_eq_true rfl) (by omega) ?_
    refine r_iconst (v := (1 : Int32)) dX10_opens_28 (by decide) ?_
    refine r_iret dX10_opens_29 rfl (by decide) ?_
    exact ⟨_, rfl, by rw [f_X10_opens, if_neg c1], by rw [f_X10_opens, if_neg c1]⟩
  · refine r_aload_n dX10_opens_8 rfl ?_
    refine m_callV0 dX10_opens_9 mf_X10_fail ml_RX10_291 (ok_X10_fail (d := d - 1) hE (by omega) _ ) rfl rfl rfl (Nat.le_of_ble_eq_true rfl) (by omega) ?_
    refine r_iconst (v := (0 : Int32)) dX10_opens_12 (by decide) ?_
    refine r_iret dX10_opens_13 rfl (by decide) ?_
    exact ⟨_, rfl, by rw [f_X10_opens, if_pos c1], by rw [f_X10_opens, if_pos c1]⟩

def f_X10_name (σ : MSt)  : Int32 × MSt := (if (f_X10_isWord σ (40600 : Int64)) = 0 then (if (f_X10_isWord σ (11047 : Int64)) = 0 then (if (f_X10_isWord σ (5146 : Int64)) = 0 then (if (f_X10_isWord σ (495765 : Int64)) = 0 then (if (f_X10_isWord σ (256721 : Int64)) = 0 then (if (f_X10_isWord σ (385240 : Int64)) = 0 then ((0 : Int32), (f_X10_fail σ)) else ((σ.1 41), σ)) else ((σ.1 40), σ)) else ((σ.1 39), σ)) else ((σ.1 38), σ)) else ((σ.1 37), σ)) else ((σ.1 36), σ))
set_option maxRecDepth 100000 in
set_option maxHeartbeats 1000000 in
theorem ok_X10_name {g : GC} {E : ME} {d : Nat} (hE : MEok E) (hd : 1 ≤ d) (σ : MSt)   : MC g E d yX10_name cX10_name 1 (some FieldType.int) [] (fun v σ' => v = some (.int (f_X10_name σ ).1) ∧ σ' = (f_X10_name σ ).2) σ := by
  refine AM.of2 (own := RX10) (nm := "name") (L0 := [(0, .ref E.2.2)]) (by decide) rfl rfl (Nat.le_of_ble_eq_true rfl) rfl ?_
  refine r_aload_n dX10_name_0 rfl ?_
  refine r_ldc2 dX10_name_1 kc_RX10_297 ?_
  refine m_callW dX10_name_4 mf_X10_isWord ml_RX10_299 (ok_X10_isWord (d := d - 1) hE (by omega) _ _) rfl rfl rfl (Nat.le_of_ble_eq_true rfl) (by omega) ?_
  refine r_if_eq (tgt := 15) dX10_name_7 (by decide) (fun c1 => ?_) (fun c1 => ?_)
  · refine r_aload_n dX10_name_15 rfl ?_
    refine r_ldc2 dX10_name_16 kc_RX10_306 ?_
    refine m_callW dX10_name_19 mf_X10_isWord ml_RX10_299 (ok_X10_isWord (d := d - 1) hE (by omega) _ _) rfl rfl rfl (Nat.le_of_ble_eq_true rfl) (by omega) ?_
    refine r_if_eq (tgt := 30) dX10_name_22 (by decide) (fun c2 => ?_) (fun c2 => ?_)
    · refine r_aload_n dX10_name_30 rfl ?_
      refine r_ldc2 dX10_name_31 kc_RX10_311 ?_
      refine m_callW dX10_name_34 mf_X10_isWord ml_RX10_299 (ok_X10_isWord (d := d - 1) hE (by omega) _ _) rfl rfl rfl (Nat.le_of_ble_eq_true rfl) (by omega) ?_
      refine r_if_eq (tgt := 45) dX10_name_37 (by decide) (fun c3 => ?_) (fun c3 => ?_)
      · refine r_aload_n dX10_name_45 rfl ?_
        refine r_ldc2 dX10_name_46 kc_RX10_316 ?_
        refine m_callW dX10_name_49 mf_X10_isWord ml_RX10_299 (ok_X10_isWord (d := d - 1) hE (by omega) _ _) rfl rfl rfl (Nat.le_of_ble_eq_true rfl) (by omega) ?_
        refine r_if_eq (tgt := 60) dX10_name_52 (by decide) (fun c4 => ?_) (fun c4 => ?_)
        · refine r_aload_n dX10_name_60 rfl ?_
          refine r_ldc2 dX10_name_61 kc_RX10_321 ?_
          refine m_callW dX10_name_64 mf_X10_isWord ml_RX10_299 (ok_X10_isWord (d := d - 1) hE (by omega) _ _) rfl rfl rfl (Nat.le_of_ble_eq_true rfl) (by omega) ?_
          refine r_if_eq (tgt := 75) dX10_name_67 (by decide) (fun c5 => ?_) (fun c5 => ?_)
          · refine r_aload_n dX10_name_75 rfl ?_
            refine r_ldc2 dX10_name_76 kc_RX10_326 ?_
            refine m_callW dX10_name_79 mf_X10_isWord ml_RX10_299 (ok_X10_isWord (d := d - 1) hE (by omega) _ _) rfl rfl rfl (Nat.le_of_ble_eq_true rfl) (by omega) ?_
            refine r_if_eq (tgt := 90) dX10_name_82 (by decide) (fun c6 => ?_) (fun c6 => ?_)
            · refine r_aload_n dX10_name_90 rfl ?_
              refine m_callV0 dX10_name_91 mf_X10_fail ml_RX10_291 (ok_X10_fail (d := d - 1) hE (by omega) _ ) rfl rfl rfl (Nat.le_of_ble_eq_true rfl) (by omega) ?_
              refine r_iconst (v := (0 : Int32)) dX10_name_94 (by decide) ?_
              refine r_iret dX10_name_95 rfl rfl ?_
              exact ⟨_, rfl, by rw [f_X10_name, if_pos c1, if_pos c2, if_pos c3, if_pos c4, if_pos c5, if_pos c6], by rw [f_X10_name, if_pos c1, if_pos c2, if_pos c3, if_pos c4, if_pos c5, if_pos c6]⟩
            · refine r_aload_n dX10_name_85 rfl ?_
              refine m_get dX10_name_86 fl_RX10_328 rfl ?_
              refine r_iret dX10_name_89 rfl rfl ?_
              exact ⟨_, rfl, by rw [f_X10_name, if_pos c1, if_pos c2, if_pos c3, if_pos c4, if_pos c5, if_neg c6], by rw [f_X10_name, if_pos c1, if_pos c2, if_pos c3, if_pos c4, if_pos c5, if_neg c6]⟩
          · refine r_aload_n dX10_name_70 rfl ?_
            refine m_get dX10_name_71 fl_RX10_323 rfl ?_
            refine r_iret dX10_name_74 rfl rfl ?_
            exact ⟨_, rfl, by rw [f_X10_name, if_pos c1, if_pos c2, if_pos c3, if_pos c4, if_neg c5], by rw [f_X10_name, if_pos c1, if_pos c2, if_pos c3, if_pos c4, if_neg c5]⟩
        · refine r_aload_n dX10_name_55 rfl ?_
          refine m_get dX10_name_56 fl_RX10_318 rfl ?_
          refine r_iret dX10_name_59 rfl rfl ?_
          exact ⟨_, rfl, by rw [f_X10_name, if_pos c1, if_pos c2, if_pos c3, if_neg c4], by rw [f_X10_name, if_pos c1, if_pos c2, if_pos c3, if_neg c4]⟩
      · refine r_aload_n dX10_name_40 rfl ?_
        refine m_get dX10_name_41 fl_RX10_313 rfl ?_
        refine r_iret dX10_name_44 rfl rfl ?_
        exact ⟨_, rfl, by rw [f_X10_name, if_pos c1, if_pos c2, if_neg c3], by rw [f_X10_name, if_pos c1, if_pos c2, if_neg c3]⟩
    · refine r_aload_n dX10_name_25 rfl ?_
      refine m_get dX10_name_26 fl_RX10_308 rfl ?_
      refine r_iret dX10_name_29 rfl rfl ?_
      exact ⟨_, rfl, by rw [f_X10_name, if_pos c1, if_neg c2], by rw [f_X10_name, if_pos c1, if_neg c2]⟩
  · refine r_aload_n dX10_name_10 rfl ?_
    refine m_get dX10_name_11 fl_RX10_303 rfl ?_
    refine r_iret dX10_name_14 rfl rfl ?_
    exact ⟨_, rfl, by rw [f_X10_name, if_neg c1], by rw [f_X10_name, if_neg c1]⟩
