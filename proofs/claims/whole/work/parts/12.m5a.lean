theorem last_dn {σ : MSt} {b a : Int32} (ha : vp_in a 40) : (f_X10_lastOf σ b a = -1 ∨ vp_in (f_X10_lastOf σ b a) 40) ∧ (f_X10_lastOf σ b a + 1).toNatClampNeg < (a + 1).toNatClampNeg := by
  obtain ⟨k, hk, rfl⟩ := vp_in_of ha (by decide)
  rw [f_last σ b (by omega), nI_1, nI_clamp (by omega)]
  cases h : lastN (σ.2.2 21) b k with
  | none => exact ⟨Or.inl rfl, by show (0 : Nat) < _; omega⟩
  | some j =>
    have := lastN_lt h
    refine ⟨Or.inr (vp_in_nI (by omega) (by decide)), ?_⟩
    show (nI j + 1).toNatClampNeg < _
    rw [nI_1, nI_clamp (by omega)]
    omega
theorem vp_ct {x : Int32} {N : Nat} (hN : N < 1000000) (h : vp_in x N) : Ct x N := by
  obtain ⟨k, hk, rfl⟩ := vp_in_of h (by omega)
  exact ⟨k, by omega, rfl⟩
theorem m1_dn {a : Int32} (ha : vp_in a 40) : ((-1 : Int32) + 1).toNatClampNeg < (a + 1).toNatClampNeg := by
  obtain ⟨k, hk, rfl⟩ := vp_in_of ha (by decide)
  rw [nI_1, nI_clamp (by omega)]
  show (0 : Nat) < _
  omega
theorem last_m {σ : MSt} {b a : Int32} (ha : Ct a 40) : (f_X10_lastOf σ b a = -1 ∨ vp_in (f_X10_lastOf σ b a) 40) ∧ (f_X10_lastOf σ b a + 1).toNatClampNeg < 42 := by
  obtain ⟨k, hk, rfl⟩ := ha
  rw [f_last σ b hk]
  cases h : lastN (σ.2.2 21) b k with
  | none => exact ⟨Or.inl rfl, by show (0 : Nat) < _; omega⟩
  | some j =>
    have := lastN_lt h
    refine ⟨Or.inr (vp_in_nI (by omega) (by decide)), ?_⟩
    show (nI j + 1).toNatClampNeg < _
    rw [nI_1, nI_clamp (by omega)]
    omega

def f_X10_chain_L23 : Nat → MSt → Int32 → Int32 → Int32 → Int32
  | 0, _, _, _, _ => 0
  | n + 1, σ, l1, l2, l3 => (if l2 = (-1 : Int32) then l3 else (if (f_X10_lastOf σ l1 l2) = (-1 : Int32) then (f_X10_chain_L23 n σ l1 (-1 : Int32) (l3 + (1 : Int32))) else (if (σ.2.2 23 (Int32.toNatClampNeg (f_X10_lastOf σ l1 l2))) = (σ.2.2 22 (Int32.toNatClampNeg l2)) then (f_X10_chain_L23 n σ l1 (f_X10_lastOf σ l1 l2) (l3 + (1 : Int32))) else (f_X10_chain_L23 n σ l1 (-1 : Int32) (l3 + (1 : Int32))))))
set_option maxRecDepth 100000 in
set_option maxHeartbeats 1000000 in
theorem lp_X10_chain_23 {g : GC} {E : ME} {d : Nat} {K : Option Value → MSt → Prop} (hE : MEok E) (hd : 2 ≤ d) : ∀ (fuel : Nat) (σ : MSt) (l1 : Int32) (l2 : Int32) (l3 : Int32), MInv σ → (l2 = -1 ∨ vp_in l2 40) → (l2 + 1).toNatClampNeg < fuel → K (some (.int (f_X10_chain_L23 fuel σ l1 l2 l3))) σ → MW g E cX10_chain 5 (some FieldType.int) "chain" d K 23 [(0, .ref E.2.2), (1, .int l1), (2, .int l2), (3, .int l3)] [] σ := by
  intro fuel
  induction fuel with
  | zero => intro σ l1 l2 l3 i0 i1 hm hK; exact absurd hm (Nat.not_lt_zero _)
  | succ n ih =>
    intro σ l1 l2 l3 i0 i1 hm hK
    refine r_iload_n dX10_chain_23 rfl ?_
    refine r_iconst (v := (-1 : Int32)) dX10_chain_24 (by decide) ?_
    refine r_icmp_eq (tgt := 71) dX10_chain_25 (by decide) (fun c2 => ?_) (fun c2 => ?_)
    · refine r_iload_n dX10_chain_71 rfl ?_
      refine r_iret dX10_chain_72 rfl rfl ?_
      exact ⟨_, rfl, by rw [f_X10_chain_L23, if_pos c2] at hK; exact hK⟩
    · refine r_iinc2 (w := (1 : Int32)) dX10_chain_28 rfl (by decide) (by decide) ?_
      refine r_aload_n dX10_chain_31 rfl ?_
      refine r_iload_n dX10_chain_32 rfl ?_
      refine r_iload_n dX10_chain_33 rfl ?_
      refine m_callW dX10_chain_34 mf_X10_lastOf ml_RX10_235 (ok_X10_lastOf (d := d - 1) hE (by omega) _ _ _ (by exact vp_ct (by decide) (Or.resolve_left i1 (by with_reducible assumption)))) rfl rfl rfl (Nat.le_of_ble_eq_true rfl) (by omega) ?_
      refine r_istore dX10_chain_37 (by decide) ?_
      refine r_iload dX10_chain_39 rfl ?_
      refine r_iconst (v := (-1 : Int32)) dX10_chain_41 (by decide) ?_
      refine r_icmp_eq (tgt := 66) dX10_chain_42 (by decide) (fun c3 => ?_) (fun c3 => ?_)
      · refine r_iconst (v := (-1 : Int32)) dX10_chain_66 (by decide) ?_
        refine r_istore_n dX10_chain_67 (by decide) ?_
        refine r_goto (tgt := 23) dX10_chain_68 (by decide) ?_
        refine r_loc (L' := [(0, .ref E.2.2), (1, .int l1), (2, .int (-1 : Int32)), (3, .int (l3 + (1 : Int32)))]) [3, 4, 0, 2] rfl ?_
        exact ih σ  l1 (-1 : Int32) (l3 + (1 : Int32)) (by exact i0) (by first | exact Or.inl rfl | exact (last_dn (Or.resolve_left i1 (by with_reducible assumption))).1) (by have u1 := (last_dn (σ := σ) (b := l1) (Or.resolve_left i1 (by with_reducible assumption))).2; have u2 := m1_dn (Or.resolve_left i1 (by with_reducible assumption)); omega) (by rw [f_X10_chain_L23, if_neg c2, if_pos c3] at hK; exact hK)
      · refine r_aload_n dX10_chain_45 rfl ?_
        refine m_get dX10_chain_46 fl_RX10_65 rfl ?_
        refine r_iload dX10_chain_49 rfl ?_
        refine m_iald (k := 23) (N := 40) hE (by decide) rfl rfl dX10_chain_51 (by exact last_in (vp_ct (by decide) (Or.resolve_left i1 (by with_reducible assumption))) (by with_reducible assumption)) ?_
        refine r_aload_n dX10_chain_52 rfl ?_
        refine m_get dX10_chain_53 fl_RX10_62 rfl ?_
        refine r_iload_n dX10_chain_56 rfl ?_
        refine m_iald (k := 22) (N := 40) hE (by decide) rfl rfl dX10_chain_57 (by exact (Or.resolve_left i1 (by with_reducible assumption))) ?_
        refine r_icmp_ne (tgt := 66) dX10_chain_58 (by decide) (fun c4 => ?_) (fun c4 => ?_)
        · refine r_iconst (v := (-1 : Int32)) dX10_chain_66 (by decide) ?_
          refine r_istore_n dX10_chain_67 (by decide) ?_
          refine r_goto (tgt := 23) dX10_chain_68 (by decide) ?_
          refine r_loc (L' := [(0, .ref E.2.2), (1, .int l1), (2, .int (-1 : Int32)), (3, .int (l3 + (1 : Int32)))]) [3, 4, 0, 2] rfl ?_
          exact ih σ  l1 (-1 : Int32) (l3 + (1 : Int32)) (by exact i0) (by first | exact Or.inl rfl | exact (last_dn (Or.resolve_left i1 (by with_reducible assumption))).1) (by have u1 := (last_dn (σ := σ) (b := l1) (Or.resolve_left i1 (by with_reducible assumption))).2; have u2 := m1_dn (Or.resolve_left i1 (by with_reducible assumption)); omega) (by rw [f_X10_chain_L23, if_neg c2, if_neg c3, if_neg c4] at hK; exact hK)
        · refine r_iload dX10_chain_61 rfl ?_
          refine r_goto (tgt := 67) dX10_chain_63 (by decide) ?_
          refine r_istore_n dX10_chain_67 (by decide) ?_
          refine r_goto (tgt := 23) dX10_chain_68 (by decide) ?_
          refine r_loc (L' := [(0, .ref E.2.2), (1, .int l1), (2, .int (f_X10_lastOf σ l1 l2)), (3, .int (l3 + (1 : Int32)))]) [3, 4, 0, 2] rfl ?_
          exact ih σ  l1 (f_X10_lastOf σ l1 l2) (l3 + (1 : Int32)) (by exact i0) (by first | exact Or.inl rfl | exact (last_dn (Or.resolve_left i1 (by with_reducible assumption))).1) (by have u1 := (last_dn (σ := σ) (b := l1) (Or.resolve_left i1 (by with_reducible assumption))).2; have u2 := m1_dn (Or.resolve_left i1 (by with_reducible assumption)); omega) (by rw [f_X10_chain_L23, if_neg c2, if_neg c3, if_pos c4] at hK; exact hK)
def f_X10_chain (σ : MSt) (p1 : Int32) : Int32 := (if (f_X10_isBottle σ p1) = 0 then (-2 : Int32) else (f_X10_chain_L23 (42) σ p1 (f_X10_lastOf σ p1 (σ.1 26)) (0 : Int32)))
set_option maxRecDepth 100000 in
set_option maxHeartbeats 1000000 in
theorem ok_X10_chain {g : GC} {E : ME} {d : Nat} (hE : MEok E) (hd : 2 ≤ d) (σ : MSt) (p1 : Int32) (h0 : MInv σ) : MC g E d yX10_chain cX10_chain 5 (some FieldType.int) [.int p1] (fun v σ' => v = some (.int (f_X10_chain σ p1)) ∧ σ' = σ) σ := by
  refine AM.of2 (own := RX10) (nm := "chain") (L0 := [(0, .ref E.2.2), (1, .int p1)]) (by decide) rfl rfl (Nat.le_of_ble_eq_true rfl) rfl ?_
  refine r_aload_n dX10_chain_0 rfl ?_
  refine r_iload_n dX10_chain_1 rfl ?_
  refine m_callW dX10_chain_2 mf_X10_isBottle ml_RX10_186 (ok_X10_isBottle (d := d - 1) hE (by omega) _ _) rfl rfl rfl (Nat.le_of_ble_eq_true rfl) (by omega) ?_
  refine r_if_ne (tgt := 11) dX10_chain_5 (by decide) (fun c1 => ?_) (fun c1 => ?_)
  · refine r_aload_n dX10_chain_11 rfl ?_
    refine r_iload_n dX10_chain_12 rfl ?_
    refine r_aload_n dX10_chain_13 rfl ?_
    refine m_get dX10_chain_14 fl_RX10_232 rfl ?_
    refine m_callW dX10_chain_17 mf_X10_lastOf ml_RX10_235 (ok_X10_lastOf (d := d - 1) hE (by omega) _ _ _ (by exact h0.ns)) rfl rfl rfl (Nat.le_of_ble_eq_true rfl) (by omega) ?_
    refine r_istore_n dX10_chain_20 (by decide) ?_
    refine r_iconst (v := (0 : Int32)) dX10_chain_21 (by decide) ?_
    refine r_istore_n dX10_chain_22 (by decide) ?_
    refine r_loc (L' := [(0, .ref E.2.2), (1, .int p1), (2, .int (f_X10_lastOf σ p1 (σ.1 26))), (3, .int (0 : Int32))]) [2, 3, 1, 0] rfl ?_
    exact lp_X10_chain_23 hE (by omega) (42) σ p1 (f_X10_lastOf σ p1 (σ.1 26)) (0 : Int32) (by exact h0) (by exact (last_m h0.ns).1) ((last_m h0.ns).2) ⟨by rw [f_X10_chain, if_neg c1], rfl⟩
  · refine r_bipush (v := (-2 : Int32)) dX10_chain_8 (by decide) ?_
    refine r_iret dX10_chain_10 rfl rfl ?_
    exact ⟨_, rfl, by rw [f_X10_chain, if_pos c1], rfl⟩

def ovm (x : Int32) : Nat := if x = -1 then 0 else if x = 0 then 1 else if x = 3 ∨ x = 4 then 3 else 2
set_option maxRecDepth 100000 in
theorem ov_tab : ∀ k, k ≤ 6 → ¬ nI k - 1 = -1 → (∃ j, j < 7 ∧ f_X10_over (nI k - 1) = nI j - 1) ∧ ovm (f_X10_over (nI k - 1)) < ovm (nI k - 1) := by decide +kernel
theorem ov_dn {x : Int32} (h : Cd x 6) (c : ¬ x = -1) : Cd (f_X10_over x) 6 ∧ ovm (f_X10_over x) < ovm x := by
  obtain ⟨k, hk, rfl⟩ := h
  obtain ⟨⟨j, h1, h2⟩, h3⟩ := ov_tab k hk c
  exact ⟨⟨j, by omega, h2⟩, h3⟩
theorem vp_cd {x : Int32} {N : Nat} (hN : N < 1000000) (h : vp_in x N) : Cd x N := by
  obtain ⟨k, hk, rfl⟩ := vp_in_of h (by omega)
  exact ⟨k + 1, by omega, (nI_pred k).symm⟩
theorem ovm_le (x : Int32) : ovm x < 8 := by
  unfold ovm
  (repeat' split) <;> omega

def f_X10_taken_L33 : Nat → MSt → Int32 → Int32 → Int32 → Int32
  | 0, _, _, _, _ => 0
  | n + 1, σ, l1, l2, l3 => (if l3 = (-1 : Int32) then (if l3 = l2 then (σ.2.2 18 (Int32.toNatClampNeg l1)) else (-13 : Int32)) else (if l3 = l2 then (if l3 = l2 then (σ.2.2 18 (Int32.toNatClampNeg l1)) else (-13 : Int32)) else (f_X10_taken_L33 n σ l1 l2 (f_X10_over l3))))
set_option maxRecDepth 100000 in
set_option maxHeartbeats 1000000 in
theorem lp_X10_taken_33 {g : GC} {E : ME} {d : Nat} {K : Option Value → MSt → Prop} (hE : MEok E) (hd : 2 ≤ d) : ∀ (fuel : Nat) (σ : MSt) (l1 : Int32) (l2 : Int32) (l3 : Int32), vp_in l1 24 → Cd l3 6 → ovm l3 < fuel → K (some (.int (f_X10_taken_L33 fuel σ l1 l2 l3))) σ → MW g E cX10_taken 4 (some FieldType.int) "taken" d K 33 [(0, .ref E.2.2), (1, .int l1), (2, .int l2), (3, .int l3)] [] σ := by
  intro fuel
  induction fuel with
  | zero => intro σ l1 l2 l3 i0 i1 hm hK; exact absurd hm (Nat.not_lt_zero _)
  | succ n ih =>
    intro σ l1 l2 l3 i0 i1 hm hK
    refine r_iload_n dX10_taken_33 rfl ?_
    refine r_iconst (v := (-1 : Int32)) dX10_taken_34 (by decide) ?_
    refine r_icmp_eq (tgt := 51) dX10_taken_35 (by decide) (fun c3 => ?_) (fun c3 => ?_)
    · refine r_iload_n dX10_taken_51 rfl ?_
      refine r_iload_n dX10_taken_52 rfl ?_
      refine r_icmp_ne (tgt := 65) dX10_taken_53 (by decide) (fun c4 => ?_) (fun c4 => ?_)
      · refine r_bipush (v := (-13 : Int32)) dX10_taken_65 (by decide) ?_
        refine r_iret dX10_taken_67 rfl rfl ?_
        exact ⟨_, rfl, by rw [f_X10_taken_L33, if_pos c3, if_neg c4] at hK; exact hK⟩
      · refine r_aload_n dX10_taken_56 rfl ?_
        refine m_get dX10_taken_57 fl_RX10_53 rfl ?_
        refine r_iload_n dX10_taken_60 rfl ?_
        refine m_iald (k := 18) (N := 24) hE (by decide) rfl rfl dX10_taken_61 (by with_reducible first | exact i0 | exact isBottle_in h0 (by with_reducible assumption)) ?_
        refine r_goto (tgt := 67) dX10_taken_62 (by decide) ?_
        refine r_iret dX10_taken_67 rfl rfl ?_
        exact ⟨_, rfl, by rw [f_X10_taken_L33, if_pos c3, if_pos c4] at hK; exact hK⟩
    · refine r_iload_n dX10_taken_38 rfl ?_
      refine r_iload_n dX10_taken_39 rfl ?_
      refine r_icmp_eq (tgt := 51) dX10_taken_40 (by decide) (fun c5 => ?_) (fun c5 => ?_)
      · refine r_iload_n dX10_taken_51 rfl ?_
        refine r_iload_n dX10_taken_52 rfl ?_
        refine r_icmp_ne (tgt := 65) dX10_taken_53 (by decide) (fun c6 => ?_) (fun c6 => ?_)
        · refine r_bipush (v := (-13 : Int32)) dX10_taken_65 (by decide) ?_
          refine r_iret dX10_taken_67 rfl rfl ?_
          exact ⟨_, rfl, by rw [f_X10_taken_L33, if_neg c3, if_pos c5, if_neg c6] at hK; exact hK⟩
        · refine r_aload_n dX10_taken_56 rfl ?_
          refine m_get dX10_taken_57 fl_RX10_53 rfl ?_
          refine r_iload_n dX10_taken_60 rfl ?_
          refine m_iald (k := 18) (N := 24) hE (by decide) rfl rfl dX10_taken_61 (by with_reducible first | exact i0 | exact isBottle_in h0 (by with_reducible assumption)) ?_
          refine r_goto (tgt := 67) dX10_taken_62 (by decide) ?_
          refine r_iret dX10_taken_67 rfl rfl ?_
          exact ⟨_, rfl, by rw [f_X10_taken_L33, if_neg c3, if_pos c5, if_pos c6] at hK; exact hK⟩
      · refine r_iload_n dX10_taken_43 rfl ?_
        refine m_callS dX10_taken_44 mf_X10_over ml_RX10_446 (ok_X10_over (d := d - 1) (by omega) _) rfl rfl (Nat.le_of_ble_eq_true rfl) (by omega) ?_
        refine r_istore_n dX10_taken_47 (by decide) ?_
        refine r_goto (tgt := 33) dX10_taken_48 (by decide) ?_
        refine r_loc (L' := [(0, .ref E.2.2), (1, .int l1), (2, .int l2), (3, .int (f_X10_over l3))]) [1, 2, 3, 0] rfl ?_
        exact ih σ  l1 l2 (f_X10_over l3) (by exact i0) (by exact (ov_dn i1 (by with_reducible assumption)).1) (by have u := (ov_dn i1 (by with_reducible assumption)).2; omega) (by rw [f_X10_taken_L33, if_neg c3, if_neg c5] at hK; exact hK)
def f_X10_taken (σ : MSt) (p1 : Int32) (p2 : Int32) : Int32 := (if (f_X10_in (Int32.toInt64 p2) (0 : Int64) (5 : Int64)) = 0 then (-2 : Int32) else (if (f_X10_isBottle σ p1) = 0 then (-11 : Int32) else (f_X10_taken_L33 (8) σ p1 p2 (σ.2.2 16 (Int32.toNatClampNeg p1)))))
set_option maxRecDepth 100000 in
set_option maxHeartbeats 1000000 in
theorem ok_X10_taken {g : GC} {E : ME} {d : Nat} (hE : MEok E) (hd : 2 ≤ d) (σ : MSt) (p1 : Int32) (p2 : Int32) (h0 : MInv σ) : MC g E d yX10_taken cX10_taken 4 (some FieldType.int) [.int p1, .int p2] (fun v σ' => v = some (.int (f_X10_taken σ p1 p2)) ∧ σ' = σ) σ := by
  refine AM.of2 (own := RX10) (nm := "taken") (L0 := [(0, .ref E.2.2), (1, .int p1), (2, .int p2)]) (by decide) rfl rfl (Nat.le_of_ble_eq_true rfl) rfl ?_
  refine r_iload_n dX10_taken_0 rfl ?_
  refine r_i2l dX10_taken_1 ?_
  refine r_lconst (v := (0 : Int64)) dX10_taken_2 (by decide) ?_
  refine r_ldc2 dX10_taken_3 kc_RX10_177 ?_
  refine m_callS dX10_taken_6 mf_X10_in ml_RX10_149 (ok_X10_in (d := d - 1) (by omega) _ _ _) rfl rfl (Nat.le_of_ble_eq_true rfl) (by omega) ?_
  refine r_if_ne (tgt := 15) dX10_taken_9 (by decide) (fun c1 => ?_) (fun c1 => ?_)
  · refine r_aload_n dX10_taken_15 rfl ?_
    refine r_iload_n dX10_taken_16 rfl ?_
    refine m_callW dX10_taken_17 mf_X10_isBottle ml_RX10_186 (ok_X10_isBottle (d := d - 1) hE (by omega) _ _) rfl rfl rfl (Nat.le_of_ble_eq_true rfl) (by omega) ?_
    refine r_if_ne (tgt := 26) dX10_taken_20 (by decide) (fun c2 => ?_) (fun c2 => ?_)
    · refine r_aload_n dX10_taken_26 rfl ?_
      refine m_get dX10_taken_27 fl_RX10_47 rfl ?_
      refine r_iload_n dX10_taken_30 rfl ?_
      refine m_iald (k := 16) (N := 24) hE (by decide) rfl rfl dX10_taken_31 (by with_reducible first | exact i0 | exact isBottle_in h0 (by with_reducible assumption)) ?_
      refine r_istore_n dX10_taken_32 (by decide) ?_
      refine r_loc (L' := [(0, .ref E.2.2), (1, .int p1), (2, .int p2), (3, .int (σ.2.2 16 (Int32.toNatClampNeg p1)))]) [1, 2, 3, 0] rfl ?_
      exact lp_X10_taken_33 hE (by omega) (8) σ p1 p2 (σ.2.2 16 (Int32.toNatClampNeg p1)) (by exact isBottle_in h0 (by with_reducible assumption)) (by exact vp_cd (by decide) (h0.kind _)) (ovm_le _) ⟨by rw [f_X10_taken, if_neg c1, if_neg c2], rfl⟩
    · refine r_bipush (v := (-11 : Int32)) dX10_taken_23 (by decide) ?_
      refine r_iret dX10_taken_25 rfl rfl ?_
      exact ⟨_, rfl, by rw [f_X10_taken, if_neg c1, if_pos c2], rfl⟩
  · refine r_bipush (v := (-2 : Int32)) dX10_taken_12 (by decide) ?_
    refine r_iret dX10_taken_14 rfl rfl ?_
    exact ⟨_, rfl, by rw [f_X10_taken, if_pos c1], rfl⟩

def CtL (x : Int64) (N : Nat) : Prop := ∃ k : Nat, k < N ∧ x = lN k
theorem CtL.rem {x y : Int64} (hx : CtL x 2000) (hy : CtL y 2000) (c : ¬ lg_cmp y 0 = 0) : CtL (x - x / y * y) 2000 ∧ (x - x / y * y).toInt.toNat < y.toInt.toNat := by
  obtain ⟨a, ha, rfl⟩ := hx
  obtain ⟨b, hb, rfl⟩ := hy
  have hb0 : 0 < b := by
    rcases Nat.eq_zero_or_pos b with q | q
    · exact absurd ((lg_eq _ _).mpr (by rw [q]; rfl)) c
    · exact q
  have hm := Nat.mod_lt a hb0
  rw [pk_lRem (by omega) hb0 (by omega), pk_lT (n := a % b) (by omega), pk_lT (n := b) (by omega)]
  exact ⟨⟨a % b, by omega, rfl⟩, by omega⟩
theorem CtL.nz {y : Int64} (c : ¬ lg_cmp y 0 = 0) : ¬ y = 0 := fun z => c ((lg_eq _ _).mpr z)
theorem CtL.ge {x : Int64} {N : Nat} (hN : N < 1000000) (hx : CtL x N) : 0 ≤ lg_cmp x 0 := by
  obtain ⟨a, ha, rfl⟩ := hx
  rw [lg_cmp_ge, Int64.le_iff_toInt_le, pk_lT (by omega)]
  simp
theorem CtL.m {x : Int64} (hx : CtL x 2000) : x.toInt.toNat < 2001 := by
  obtain ⟨a, ha, rfl⟩ := hx
  rw [pk_lT (by omega)]
  omega

def f_X10_common_L17 : Nat → Int64 → Int64 → Int64 → Int64 → Int64
  | 0, _, _, _, _ => 0
  | n + 1, l0, l2, l4, l6 => (if (lg_cmp l6 (0 : Int64)) = 0 then l4 else (f_X10_common_L17 n  l0 l2 l6 (l4 - l4 / l6 * l6)))
set_option maxRecDepth 100000 in
set_option maxHeartbeats 1000000 in
theorem lp_X10_common_17 {g : GC} {d : Nat} {h : hH} {K : Option Value → hH → Prop} (hd : 0 ≤ d) : ∀ (fuel : Nat) (l0 : Int64) (l2 : Int64) (l4 : Int64) (l6 : Int64), CtL l4 2000 → CtL l6 2000 → l6.toInt.toNat < fuel → K (some (.long (f_X10_common_L17 fuel l0 l2 l4 l6))) h → AW g RX10 cX10_common 10 (some FieldType.long) "common" d 0 0 K 17 [(0, .long l0), (2, .long l2), (4, .long l4), (6, .long l6)] [] h := by
  intro fuel
  induction fuel with
  | zero => intro l0 l2 l4 l6 i0 i1 hm hK; exact absurd hm (Nat.not_lt_zero _)
  | succ n ih =>
    intro l0 l2 l4 l6 i0 i1 hm hK
    refine r_lload dX10_common_17 rfl ?_
    refine r_lconst (v := (0 : Int64)) dX10_common_19 (by decide) ?_
    refine r_lcmp dX10_common_20 ?_
    refine r_if_eq (tgt := 42) dX10_common_21 (by decide) (fun c2 => ?_) (fun c2 => ?_)
    · refine r_lload dX10_common_42 rfl ?_
      refine r_lret dX10_common_44 rfl ?_
      exact (by rw [f_X10_common_L17, if_pos c2] at hK; exact hK)
    · refine r_lload dX10_common_24 rfl ?_
      refine r_lload dX10_common_26 rfl ?_
      refine r_lrem dX10_common_28 (by exact CtL.nz (by with_reducible assumption)) ?_
      refine r_lstore dX10_common_29 (by decide) ?_
      refine r_lload dX10_common_31 rfl ?_
      refine r_lstore dX10_common_33 (by decide) ?_
      refine r_lload dX10_common_35 rfl ?_
      refine r_lstore dX10_common_37 (by decide) ?_
      refine r_goto (tgt := 17) dX10_common_39 (by decide) ?_
      refine r_loc (L' := [(0, .long l0), (2, .long l2), (4, .long l6), (6, .long (l4 - l4 / l6 * l6))]) [3, 4, 1, 0] rfl ?_
      exact ih  l0 l2 l6 (l4 - l4 / l6 * l6) (by exact i1) (by exact (CtL.rem i0 i1 (by with_reducible assumption)).1) (by have u := (CtL.rem i0 i1 (by with_reducible assumption)).2; omega) (by rw [f_X10_common_L17, if_neg c2] at hK; exact hK)
def f_X10_common (p1 : Int64) (p2 : Int64) : Int64 := (if 0 ≤ (lg_cmp p1 (0 : Int64)) then (f_X10_common_L17 (2001)  p1 p2 p1 p2) else (f_X10_common_L17 (2001)  p1 p2 (-p1) p2))
set_option maxRecDepth 100000 in
set_option maxHeartbeats 1000000 in
theorem ok_X10_common {g : GC} {d : Nat} {h : hH} (hd : 0 ≤ d) (p1 : Int64) (p2 : Int64) (h0 : CtL p1 2000) (h1 : CtL p2 2000) : AM g d 0 0 yX10_common cX10_common 10 (some FieldType.long) [.long p1, .long p2] h (fun v h' => v = some (.long (f_X10_common p1 p2)) ∧ h' = h) := by
  refine AM.of2 (own := RX10) (nm := "common") (L0 := [(0, .long p1), (2, .long p2)]) (by decide) rfl rfl (Nat.le_of_ble_eq_true rfl) rfl ?_
  refine r_lload_n dX10_common_0 rfl ?_
  refine r_lconst (v := (0 : Int64)) dX10_common_1 (by decide) ?_
  refine r_lcmp dX10_common_2 ?_
  refine r_if_ge (tgt := 11) dX10_common_3 (by decide) (fun c1 => ?_) (fun c1 => ?_)
  · refine r_lload_n dX10_common_11 rfl ?_
    refine r_lstore dX10_common_12 (by decide) ?_
    refine r_lload_n dX10_common_14 rfl ?_
    refine r_lstore dX10_common_15 (by decide) ?_
    refine r_loc (L' := [(0, .long p1), (2, .long p2), (4, .long p1), (6, .long p2)]) [2, 3, 1, 0] rfl ?_
    exact lp_X10_common_17 (by omega) (2001)  p1 p2 p1 p2 (by first | exact h0 | exact absurd (CtL.ge (by decide) h0) (by with_reducible assumption)) (by exact h1) (CtL.m h1) ⟨by rw [f_X10_common, if_pos c1], rfl⟩
  · refine r_lload_n dX10_common_6 rfl ?_
    refine r_lneg dX10_common_7 ?_
    refine r_goto (tgt := 12) dX10_common_8 (by decide) ?_
    refine r_lstore dX10_common_12 (by decide) ?_
    refine r_lload_n dX10_common_14 rfl ?_
    refine r_lstore dX10_common_15 (by decide) ?_
    refine r_loc (L' := [(0, .long p1), (2, .long p2), (4, .long (-p1)), (6, .long p2)]) [2, 3, 1, 0] rfl ?_
    exact lp_X10_common_17 (by omega) (2001)  p1 p2 (-p1) p2 (by first | exact h0 | exact absurd (CtL.ge (by decide) h0) (by with_reducible assumption)) (by exact h1) (CtL.m h1) ⟨by rw [f_X10_common, if_neg c1], rfl⟩
