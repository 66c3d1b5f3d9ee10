/-- a sale more -/
def saleSt (σ : MSt) (b hd p y : Int32) : MSt := (upd σ.1 26 (σ.1 26 + 1), σ.2.1, fun j => if j = 25 then upd (σ.2.2 25) (σ.1 26).toNatClampNeg y else if j = 24 then upd (σ.2.2 24) (σ.1 26).toNatClampNeg p else if j = 23 then upd (σ.2.2 23) (σ.1 26).toNatClampNeg (hd - hd / 10 * 10) else if j = 22 then upd (σ.2.2 22) (σ.1 26).toNatClampNeg (hd / 10) else if j = 21 then upd (σ.2.2 21) (σ.1 26).toNatClampNeg b else σ.2.2 j)
theorem sale_two (σ : MSt) (b hd p y : Int32) : (f_X10_sale σ b hd p y = (-2, σ) ∨ f_X10_sale σ b hd p y = (-4, σ)) ∨ (¬ f_X10_isBottle σ b = 0 ∧ ¬ σ.1 26 = 40 ∧ f_X10_sale σ b hd p y = (σ.1 26 + 1 - 1, saleSt σ b hd p y)) := by
  unfold f_X10_sale
  (repeat' split) <;> first | exact Or.inl (Or.inl rfl) | exact Or.inl (Or.inr rfl) | exact Or.inr ⟨by assumption, by assumption, rfl⟩
theorem Ct.next {x : Int32} {N : Nat} (hN : N < 1000000) (h : Ct x N) (c : ¬ x = nI N) : Ct (x + 1) N := by
  obtain ⟨k, hk, rfl⟩ := h
  have : k ≠ N := fun z => c (by rw [z])
  exact ⟨k + 1, by omega, nI_1 k⟩
theorem MInv.saleSt {σ : MSt} (h : MInv σ) {b hd p y : Int32} (c1 : ¬ f_X10_isBottle σ b = 0) (c2 : ¬ σ.1 26 = 40) : MInv (saleSt σ b hd p y) := by
  refine ⟨⟨h.nw, h.nb, h.ns.next (by decide) c2, h.nt, h.np⟩, h.2.1, h.2.2.1, h.2.2.2.1, h.2.2.2.2.1, fun i => ?_, h.2.2.2.2.2.2⟩
  show vp_in (upd (σ.2.2 21) (σ.1 26).toNatClampNeg b i) 24
  unfold upd
  split
  · exact isBottle_in h c1
  · exact h.sb i
theorem MInv.sale {σ : MSt} (h : MInv σ) (b hd p y : Int32) : MInv (f_X10_sale σ b hd p y).2 := by
  rcases sale_two σ b hd p y with (e | e) | ⟨c1, c2, e⟩
  · rw [e]; exact h
  · rw [e]; exact h
  · rw [e]; exact h.saleSt c1 c2
theorem sale_there {σ : MSt} {x : Nat} {b hd p y : Int32} (c : ¬ σ.2.2 56 x = 0) : ¬ (f_X10_sale σ b hd p y).2.2.2 56 x = 0 := by
  rcases sale_two σ b hd p y with (e | e) | ⟨-, -, e⟩ <;> (rw [e]; exact c)
theorem sl_in {s a z k : Int32} (hs : vp_in s 4) (hz : Ct z 40) (hk : Ct k 10) (h0 : ¬ a < 0) (c : a ≤ z - 4 * k - 4) : vp_in (40 * s + a + 4 * k) 160 ∧ vp_in (40 * s + a + 4 * k + 1) 160 ∧ vp_in (40 * s + a + 4 * k + 2) 160 ∧ vp_in (40 * s + a + 4 * k + 3) 160 := by
  obtain ⟨t, ht, rfl⟩ := vp_in_of hs (by decide)
  obtain ⟨m, hm, rfl⟩ := hz
  obtain ⟨j, hj, rfl⟩ := hk
  obtain ⟨i, hi, rfl⟩ := nI_of h0
  have e4 : (4 : Int32) * nI j = nI (4 * j) := pk_mul 4 j
  rw [e4] at c ⊢
  have e : (nI m - nI (4 * j) - 4).toInt = (m : Int) - 4 * j - 4 := by
    rw [Int32.toInt_sub, Int32.toInt_sub, nI_toInt (by omega), nI_toInt (by omega), show (4 : Int32).toInt = 4 from rfl]
    rw [Int.bmod_eq_of_le (n := (m : Int) - (4 * j : Nat)) (by omega) (by omega)]
    rw [Int.bmod_eq_of_le (by omega) (by omega)]
    omega
  have h1 := Int32.le_iff_toInt_le.mp c
  rw [e, nI_toInt hi] at h1
  rw [show (40 : Int32) * nI t = nI (40 * t) from pk_mul 40 t, show (1 : Int32) = nI 1 from rfl, show (2 : Int32) = nI 2 from rfl, show (3 : Int32) = nI 3 from rfl, nI_add, nI_add, nI_add, nI_add, nI_add]
  exact ⟨vp_in_nI (by omega) (by decide), vp_in_nI (by omega) (by decide), vp_in_nI (by omega) (by decide), vp_in_nI (by omega) (by decide)⟩
theorem ct_in10 {x : Int32} (c : ¬ f_X10_in (Int32.toInt64 x) 0 10 = 0) : Ct x 10 := by
  obtain ⟨k, hk, rfl⟩ := vp_in_of (in_k (a' := 0) (b' := 10) (N := 11) rfl rfl rfl (by decide) rfl c) (by decide)
  exact ⟨k, by omega, rfl⟩

def f_X10_sales_L75 : Nat → MSt → Int32 → Int32 → Int32 → Int32 → Int32 → Int32 → Int32 × MSt
  | 0, σ, _, _, _, _, _, _ => (0, σ)
  | n + 1, σ, l1, l2, l3, l4, l5, l6 => (if l4 ≤ l6 then (l5, σ) else (if l3 < 0 then ((-12 : Int32), σ) else (if l3 ≤ (((σ.2.2 58 (Int32.toNatClampNeg l1)) - ((4 : Int32) * l6)) - (4 : Int32)) then (if (f_X10_sale σ (σ.2.2 59 (Int32.toNatClampNeg ((((40 : Int32) * l1) + l3) + ((4 : Int32) * l6)))) (σ.2.2 59 (Int32.toNatClampNeg (((((40 : Int32) * l1) + l3) + ((4 : Int32) * l6)) + (1 : Int32)))) (σ.2.2 59 (Int32.toNatClampNeg (((((40 : Int32) * l1) + l3) + ((4 : Int32) * l6)) + (2 : Int32)))) (σ.2.2 59 (Int32.toNatClampNeg (((((40 : Int32) * l1) + l3) + ((4 : Int32) * l6)) + (3 : Int32))))).1 < 0 then (f_X10_sales_L75 n (f_X10_sale σ (σ.2.2 59 (Int32.toNatClampNeg ((((40 : Int32) * l1) + l3) + ((4 : Int32) * l6)))) (σ.2.2 59 (Int32.toNatClampNeg (((((40 : Int32) * l1) + l3) + ((4 : Int32) * l6)) + (1 : Int32)))) (σ.2.2 59 (Int32.toNatClampNeg (((((40 : Int32) * l1) + l3) + ((4 : Int32) * l6)) + (2 : Int32)))) (σ.2.2 59 (Int32.toNatClampNeg (((((40 : Int32) * l1) + l3) + ((4 : Int32) * l6)) + (3 : Int32))))).2 l1 l2 l3 l4 (l5 + (0 : Int32)) (l6 + (1 : Int32))) else (f_X10_sales_L75 n (f_X10_sale σ (σ.2.2 59 (Int32.toNatClampNeg ((((40 : Int32) * l1) + l3) + ((4 : Int32) * l6)))) (σ.2.2 59 (Int32.toNatClampNeg (((((40 : Int32) * l1) + l3) + ((4 : Int32) * l6)) + (1 : Int32)))) (σ.2.2 59 (Int32.toNatClampNeg (((((40 : Int32) * l1) + l3) + ((4 : Int32) * l6)) + (2 : Int32)))) (σ.2.2 59 (Int32.toNatClampNeg (((((40 : Int32) * l1) + l3) + ((4 : Int32) * l6)) + (3 : Int32))))).2 l1 l2 l3 l4 (l5 + (1 : Int32)) (l6 + (1 : Int32)))) else ((-12 : Int32), σ))))
set_option maxRecDepth 100000 in
set_option maxHeartbeats 1000000 in
theorem lp_X10_sales_75 {g : GC} {E : ME} {d : Nat} {K : Option Value → MSt → Prop} (hE : MEok E) (hd : 3 ≤ d) : ∀ (fuel : Nat) (σ : MSt) (l1 : Int32) (l2 : Int32) (l3 : Int32) (l4 : Int32) (l5 : Int32) (l6 : Int32), MInv σ → vp_in l1 4 → ¬ σ.2.2 56 (Int32.toNatClampNeg l1) = 0 → Ct l4 10 → Ct l6 10 → 11 - l6.toNatClampNeg < fuel → K (some (.int (f_X10_sales_L75 fuel σ l1 l2 l3 l4 l5 l6).1)) (f_X10_sales_L75 fuel σ l1 l2 l3 l4 l5 l6).2 → MW g E cX10_sales 8 (some FieldType.int) "sales" d K 75 [(0, .ref E.2.2), (1, .int l1), (2, .int l2), (3, .int l3), (4, .int l4), (5, .int l5), (6, .int l6)] [] σ := by
  intro fuel
  induction fuel with
  | zero => intro σ l1 l2 l3 l4 l5 l6 i0 i1 i2 i3 i4 hm hK; exact absurd hm (Nat.not_lt_zero _)
  | succ n ih =>
    intro σ l1 l2 l3 l4 l5 l6 i0 i1 i2 i3 i4 hm hK
    refine r_iload dX10_sales_75 rfl ?_
    refine r_iload dX10_sales_77 rfl ?_
    refine r_icmp_ge (tgt := 176) dX10_sales_79 (by decide) (fun c8 => ?_) (fun c8 => ?_)
    · refine r_iload dX10_sales_176 rfl ?_
      refine r_iret dX10_sales_178 rfl rfl ?_
      exact ⟨_, rfl, by rw [f_X10_sales_L75, if_pos c8] at hK; exact hK⟩
    · refine r_iload_n dX10_sales_82 rfl ?_
      refine r_if_lt (tgt := 103) dX10_sales_83 (by decide) (fun c9 => ?_) (fun c9 => ?_)
      · refine r_bipush (v := (-12 : Int32)) dX10_sales_103 (by decide) ?_
        refine r_iret dX10_sales_105 rfl rfl ?_
        exact ⟨_, rfl, by rw [f_X10_sales_L75, if_neg c8, if_pos c9] at hK; exact hK⟩
      · refine r_iload_n dX10_sales_86 rfl ?_
        refine r_aload_n dX10_sales_87 rfl ?_
        refine m_get dX10_sales_88 fl_RX10_111 rfl ?_
        refine r_iload_n dX10_sales_91 rfl ?_
        refine m_iald (k := 58) (N := 4) hE (by decide) rfl rfl dX10_sales_92 (by exact i1) ?_
        refine r_iconst (v := (4 : Int32)) dX10_sales_93 (by decide) ?_
        refine r_iload dX10_sales_94 rfl ?_
        refine r_imul dX10_sales_96 ?_
        refine r_isub dX10_sales_97 ?_
        refine r_iconst (v := (4 : Int32)) dX10_sales_98 (by decide) ?_
        refine r_isub dX10_sales_99 ?_
        refine r_icmp_le (tgt := 106) dX10_sales_100 (by decide) (fun c10 => ?_) (fun c10 => ?_)
        · refine r_bipush (v := (40 : Int32)) dX10_sales_106 (by decide) ?_
          refine r_iload_n dX10_sales_108 rfl ?_
          refine r_imul dX10_sales_109 ?_
          refine r_iload_n dX10_sales_110 rfl ?_
          refine r_iadd dX10_sales_111 ?_
          refine r_iconst (v := (4 : Int32)) dX10_sales_112 (by decide) ?_
          refine r_iload dX10_sales_113 rfl ?_
          refine r_imul dX10_sales_115 ?_
          refine r_iadd dX10_sales_116 ?_
          refine r_istore dX10_sales_117 (by decide) ?_
          refine r_iload dX10_sales_119 rfl ?_
          refine r_aload_n dX10_sales_121 rfl ?_
          refine r_aload_n dX10_sales_122 rfl ?_
          refine m_get dX10_sales_123 fl_RX10_114 rfl ?_
          refine r_iload dX10_sales_126 rfl ?_
          refine m_iald (k := 59) (N := 160) hE (by decide) rfl rfl dX10_sales_128 (by exact (sl_in i1 (i0.szz i2) i4 (by with_reducible assumption) (by with_reducible assumption)).1) ?_
          refine r_aload_n dX10_sales_129 rfl ?_
          refine m_get dX10_sales_130 fl_RX10_114 rfl ?_
          refine r_iload dX10_sales_133 rfl ?_
          refine r_iconst (v := (1 : Int32)) dX10_sales_135 (by decide) ?_
          refine r_iadd dX10_sales_136 ?_
          refine m_iald (k := 59) (N := 160) hE (by decide) rfl rfl dX10_sales_137 (by exact (sl_in i1 (i0.szz i2) i4 (by with_reducible assumption) (by with_reducible assumption)).2.1) ?_
          refine r_aload_n dX10_sales_138 rfl ?_
          refine m_get dX10_sales_139 fl_RX10_114 rfl ?_
          refine r_iload dX10_sales_142 rfl ?_
          refine r_iconst (v := (2 : Int32)) dX10_sales_144 (by decide) ?_
          refine r_iadd dX10_sales_145 ?_
          refine m_iald (k := 59) (N := 160) hE (by decide) rfl rfl dX10_sales_146 (by exact (sl_in i1 (i0.szz i2) i4 (by with_reducible assumption) (by with_reducible assumption)).2.2.1) ?_
          refine r_aload_n dX10_sales_147 rfl ?_
          refine m_get dX10_sales_148 fl_RX10_114 rfl ?_
          refine r_iload dX10_sales_151 rfl ?_
          refine r_iconst (v := (3 : Int32)) dX10_sales_153 (by decide) ?_
          refine r_iadd dX10_sales_154 ?_
          refine m_iald (k := 59) (N := 160) hE (by decide) rfl rfl dX10_sales_155 (by exact (sl_in i1 (i0.szz i2) i4 (by with_reducible assumption) (by with_reducible assumption)).2.2.2) ?_
          refine m_callW dX10_sales_156 mf_X10_sale ml_RX10_443 (ok_X10_sale (d := d - 1) hE (by omega) _ _ _ _ _ (by exact i0)) rfl rfl rfl (Nat.le_of_ble_eq_true rfl) (by omega) ?_
          refine r_if_lt (tgt := 166) dX10_sales_159 (by decide) (fun c11 => ?_) (fun c11 => ?_)
          · refine r_iconst (v := (0 : Int32)) dX10_sales_166 (by decide) ?_
            refine r_iadd dX10_sales_167 ?_
            refine r_istore dX10_sales_168 (by decide) ?_
            refine r_iinc2 (w := (1 : Int32)) dX10_sales_170 rfl (by decide) (by decide) ?_
            refine r_goto (tgt := 75) dX10_sales_173 (by decide) ?_
            refine r_loc (L' := [(0, .ref E.2.2), (1, .int l1), (2, .int l2), (3, .int l3), (4, .int l4), (5, .int (l5 + (0 : Int32))), (6, .int (l6 + (1 : Int32)))]) [3, 4, 5, 6, 7, 1, 0] rfl ?_
            exact ih (f_X10_sale σ (σ.2.2 59 (Int32.toNatClampNeg ((((40 : Int32) * l1) + l3) + ((4 : Int32) * l6)))) (σ.2.2 59 (Int32.toNatClampNeg (((((40 : Int32) * l1) + l3) + ((4 : Int32) * l6)) + (1 : Int32)))) (σ.2.2 59 (Int32.toNatClampNeg (((((40 : Int32) * l1) + l3) + ((4 : Int32) * l6)) + (2 : Int32)))) (σ.2.2 59 (Int32.toNatClampNeg (((((40 : Int32) * l1) + l3) + ((4 : Int32) * l6)) + (3 : Int32))))).2  l1 l2 l3 l4 (l5 + (0 : Int32)) (l6 + (1 : Int32)) (by exact i0.sale _ _ _ _) (by exact i1) (by exact sale_there i2) (by exact i3) (by exact (Ct.up (by decide) i3 i4 (by with_reducible assumption)).2.1) (by have u := (Ct.up (by decide) i3 i4 (by with_reducible assumption)).2.2; omega) (by rw [f_X10_sales_L75, if_neg c8, if_neg c9, if_pos c10, if_pos c11] at hK; exact hK)
          · refine r_iconst (v := (1 : Int32)) dX10_sales_162 (by decide) ?_
            refine r_goto (tgt := 167) dX10_sales_163 (by decide) ?_
            refine r_iadd dX10_sales_167 ?_
            refine r_istore dX10_sales_168 (by decide) ?_
            refine r_iinc2 (w := (1 : Int32)) dX10_sales_170 rfl (by decide) (by decide) ?_
            refine r_goto (tgt := 75) dX10_sales_173 (by decide) ?_
            refine r_loc (L' := [(0, .ref E.2.2), (1, .int l1), (2, .int l2), (3, .int l3), (4, .int l4), (5, .int (l5 + (1 : Int32))), (6, .int (l6 + (1 : Int32)))]) [3, 4, 5, 6, 7, 1, 0] rfl ?_
            exact ih (f_X10_sale σ (σ.2.2 59 (Int32.toNatClampNeg ((((40 : Int32) * l1) + l3) + ((4 : Int32) * l6)))) (σ.2.2 59 (Int32.toNatClampNeg (((((40 : Int32) * l1) + l3) + ((4 : Int32) * l6)) + (1 : Int32)))) (σ.2.2 59 (Int32.toNatClampNeg (((((40 : Int32) * l1) + l3) + ((4 : Int32) * l6)) + (2 : Int32)))) (σ.2.2 59 (Int32.toNatClampNeg (((((40 : Int32) * l1) + l3) + ((4 : Int32) * l6)) + (3 : Int32))))).2  l1 l2 l3 l4 (l5 + (1 : Int32)) (l6 + (1 : Int32)) (by exact i0.sale _ _ _ _) (by exact i1) (by exact sale_there i2) (by exact i3) (by exact (Ct.up (by decide) i3 i4 (by with_reducible assumption)).2.1) (by have u := (Ct.up (by decide) i3 i4 (by with_reducible assumption)).2.2; omega) (by rw [f_X10_sales_L75, if_neg c8, if_neg c9, if_pos c10, if_neg c11] at hK; exact hK)
        · refine r_bipush (v := (-12 : Int32)) dX10_sales_103 (by decide) ?_
          refine r_iret dX10_sales_105 rfl rfl ?_
          exact ⟨_, rfl, by rw [f_X10_sales_L75, if_neg c8, if_neg c9, if_neg c10] at hK; exact hK⟩
def f_X10_sales (σ : MSt) (p1 : Int32) (p2 : Int32) (p3 : Int32) (p4 : Int32) : Int32 × MSt := (if (f_X10_isSheet p1) = 0 then ((-2 : Int32), σ) else (if (f_X10_in (Int32.toInt64 p2) (0 : Int64) (2 : Int64)) = 0 then ((-2 : Int32), σ) else (if (f_X10_in (Int32.toInt64 p4) (0 : Int64) (10 : Int64)) = 0 then ((-2 : Int32), σ) else (if (σ.2.2 56 (Int32.toNatClampNeg p1)) = 0 then (if (σ.2.2 56 (Int32.toNatClampNeg p1)) = 0 then ((-11 : Int32), σ) else (f_X10_sales_L75 (12) σ p1 p2 p3 p4 (0 : Int32) (0 : Int32))) else (if (σ.2.2 57 (Int32.toNatClampNeg p1)) = p2 then (if (σ.2.2 56 (Int32.toNatClampNeg p1)) = 0 then ((-11 : Int32), σ) else (f_X10_sales_L75 (12) σ p1 p2 p3 p4 (0 : Int32) (0 : Int32))) else ((-13 : Int32), σ))))))
set_option maxRecDepth 100000 in
set_option maxHeartbeats 1000000 in
theorem ok_X10_sales {g : GC} {E : ME} {d : Nat} (hE : MEok E) (hd : 3 ≤ d) (σ : MSt) (p1 : Int32) (p2 : Int32) (p3 : Int32) (p4 : Int32) (h0 : MInv σ) : MC g E d yX10_sales cX10_sales 8 (some FieldType.int) [.int p1, .int p2, .int p3, .int p4] (fun v σ' => v = some (.int (f_X10_sales σ p1 p2 p3 p4).1) ∧ σ' = (f_X10_sales σ p1 p2 p3 p4).2) σ := by
  refine AM.of2 (own := RX10) (nm := "sales") (L0 := [(0, .ref E.2.2), (1, .int p1), (2, .int p2), (3, .int p3), (4, .int p4)]) (by decide) rfl rfl (Nat.le_of_ble_eq_true rfl) rfl ?_
  refine r_iload_n dX10_sales_0 rfl ?_
  refine m_callS dX10_sales_1 mf_X10_isSheet ml_RX10_440 (ok_X10_isSheet (d := d - 1) (by omega) _) rfl rfl (Nat.le_of_ble_eq_true rfl) (by omega) ?_
  refine r_if_eq (tgt := 32) dX10_sales_4 (by decide) (fun c1 => ?_) (fun c1 => ?_)
  · refine r_bipush (v := (-2 : Int32)) dX10_sales_32 (by decide) ?_
    refine r_iret dX10_sales_34 rfl rfl ?_
    exact ⟨_, rfl, by rw [f_X10_sales, if_pos c1], by rw [f_X10_sales, if_pos c1]⟩
  · refine r_iload_n dX10_sales_7 rfl ?_
    refine r_i2l dX10_sales_8 ?_
    refine r_lconst (v := (0 : Int64)) dX10_sales_9 (by decide) ?_
    refine r_ldc2 dX10_sales_10 kc_RX10_168 ?_
    refine m_callS dX10_sales_13 mf_X10_in ml_RX10_149 (ok_X10_in (d := d - 1) (by omega) _ _ _) rfl rfl (Nat.le_of_ble_eq_true rfl) (by omega) ?_
    refine r_if_eq (tgt := 32) dX10_sales_16 (by decide) (fun c2 => ?_) (fun c2 => ?_)
    · refine r_bipush (v := (-2 : Int32)) dX10_sales_32 (by decide) ?_
      refine r_iret dX10_sales_34 rfl rfl ?_
      exact ⟨_, rfl, by rw [f_X10_sales, if_neg c1, if_pos c2], by rw [f_X10_sales, if_neg c1, if_pos c2]⟩
    · refine r_iload dX10_sales_19 rfl ?_
      refine r_i2l dX10_sales_21 ?_
      refine r_lconst (v := (0 : Int64)) dX10_sales_22 (by decide) ?_
      refine r_ldc2 dX10_sales_23 kc_RX10_279 ?_
      refine m_callS dX10_sales_26 mf_X10_in ml_RX10_149 (ok_X10_in (d := d - 1) (by omega) _ _ _) rfl rfl (Nat.le_of_ble_eq_true rfl) (by omega) ?_
      refine r_if_ne (tgt := 35) dX10_sales_29 (by decide) (fun c3 => ?_) (fun c3 => ?_)
      · refine r_aload_n dX10_sales_35 rfl ?_
        refine m_get dX10_sales_36 fl_RX10_104 rfl ?_
        refine r_iload_n dX10_sales_39 rfl ?_
        refine m_zald hE dX10_sales_40 (by exact isSheet_in (by with_reducible assumption)) ?_
        refine r_if_eq (tgt := 57) dX10_sales_41 (by decide) (fun c4 => ?_) (fun c4 => ?_)
        · refine r_aload_n dX10_sales_57 rfl ?_
          refine m_get dX10_sales_58 fl_RX10_104 rfl ?_
          refine r_iload_n dX10_sales_61 rfl ?_
          refine m_zald hE dX10_sales_62 (by exact isSheet_in (by with_reducible assumption)) ?_
          refine r_if_ne (tgt := 69) dX10_sales_63 (by decide) (fun c5 => ?_) (fun c5 => ?_)
          · refine r_iconst (v := (0 : Int32)) dX10_sales_69 (by decide) ?_
            refine r_istore dX10_sales_70 (by decide) ?_
            refine r_iconst (v := (0 : Int32)) dX10_sales_72 (by decide) ?_
            refine r_istore dX10_sales_73 (by decide) ?_
            refine r_loc (L' := [(0, .ref E.2.2), (1, .int p1), (2, .int p2), (3, .int p3), (4, .int p4), (5, .int (0 : Int32)), (6, .int (0 : Int32))]) [2, 3, 4, 5, 6, 1, 0] rfl ?_
            exact lp_X10_sales_75 hE (by omega) (12) σ p1 p2 p3 p4 (0 : Int32) (0 : Int32) (by exact h0) (by exact isSheet_in (by with_reducible assumption)) (by exact (by with_reducible assumption)) (by exact ct_in10 (by with_reducible assumption)) (by exact Ct.zero _) (by decide) ⟨by rw [f_X10_sales, if_neg c1, if_neg c2, if_neg c3, if_pos c4, if_neg c5], by rw [f_X10_sales, if_neg c1, if_neg c2, if_neg c3, if_pos c4, if_neg c5]⟩
          · refine r_bipush (v := (-11 : Int32)) dX10_sales_66 (by decide) ?_
            refine r_iret dX10_sales_68 rfl rfl ?_
            exact ⟨_, rfl, by rw [f_X10_sales, if_neg c1, if_neg c2, if_neg c3, if_pos c4, if_pos c5], by rw [f_X10_sales, if_neg c1, if_neg c2, if_neg c3, if_pos c4, if_pos c5]⟩
        · refine r_aload_n dX10_sales_44 rfl ?_
          refine m_get dX10_sales_45 fl_RX10_108 rfl ?_
          refine r_iload_n dX10_sales_48 rfl ?_
          refine m_iald (k := 57) (N := 4) hE (by decide) rfl rfl dX10_sales_49 (by exact isSheet_in (by with_reducible assumption)) ?_
          refine r_iload_n dX10_sales_50 rfl ?_
          refine r_icmp_eq (tgt := 57) dX10_sales_51 (by decide) (fun c6 => ?_) (fun c6 => ?_)
          · refine r_aload_n dX10_sales_57 rfl ?_
            refine m_get dX10_sales_58 fl_RX10_104 rfl ?_
            refine r_iload_n dX10_sales_61 rfl ?_
            refine m_zald hE dX10_sales_62 (by exact isSheet_in (by with_reducible assumption)) ?_
            refine r_if_ne (tgt := 69) dX10_sales_63 (by decide) (fun c7 => ?_) (fun c7 => ?_)
            · refine r_iconst (v := (0 : Int32)) dX10_sales_69 (by decide) ?_
              refine r_istore dX10_sales_70 (by decide) ?_
              refine r_iconst (v := (0 : Int32)) dX10_sales_72 (by decide) ?_
              refine r_istore dX10_sales_73 (by decide) ?_
              refine r_loc (L' := [(0, .ref E.2.2), (1, .int p1), (2, .int p2), (3, .int p3), (4, .int p4), (5, .int (0 : Int32)), (6, .int (0 : Int32))]) [2, 3, 4, 5, 6, 1, 0] rfl ?_
              exact lp_X10_sales_75 hE (by omega) (12) σ p1 p2 p3 p4 (0 : Int32) (0 : Int32) (by exact h0) (by exact isSheet_in (by with_reducible assumption)) (by exact (by with_reducible assumption)) (by exact ct_in10 (by with_reducible assumption)) (by exact Ct.zero _) (by decide) ⟨by rw [f_X10_sales, if_neg c1, if_neg c2, if_neg c3, if_neg c4, if_pos c6, if_neg c7], by rw [f_X10_sales, if_neg c1, if_neg c2, if_neg c3, if_neg c4, if_pos c6, if_neg c7]⟩
            · refine r_bipush (v := (-11 : Int32)) dX10_sales_66 (by decide) ?_
              refine r_iret dX10_sales_68 rfl rfl ?_
              exact ⟨_, rfl, by rw [f_X10_sales, if_neg c1, if_neg c2, if_neg c3, if_neg c4, if_pos c6, if_pos c7], by rw [f_X10_sales, if_neg c1, if_neg c2, if_neg c3, if_neg c4, if_pos c6, if_pos c7]⟩
          · refine r_bipush (v := (-13 : Int32)) dX10_sales_54 (by decide) ?_
            refine r_iret dX10_sales_56 rfl rfl ?_
            exact ⟨_, rfl, by rw [f_X10_sales, if_neg c1, if_neg c2, if_neg c3, if_neg c4, if_neg c6], by rw [f_X10_sales, if_neg c1, if_neg c2, if_neg c3, if_neg c4, if_neg c6]⟩
      · refine r_bipush (v := (-2 : Int32)) dX10_sales_32 (by decide) ?_
        refine r_iret dX10_sales_34 rfl rfl ?_
        exact ⟨_, rfl, by rw [f_X10_sales, if_neg c1, if_neg c2, if_pos c3], by rw [f_X10_sales, if_neg c1, if_neg c2, if_pos c3]⟩
