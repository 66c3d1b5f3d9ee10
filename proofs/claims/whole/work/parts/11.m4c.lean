def f_X10_sheet_L77 : Nat → MSt → Int32 → Int32 → Int32 → Int32 → Int32 × MSt
  | 0, σ, _, _, _, _ => (0, σ)
  | n + 1, σ, l1, l2, l3, l4 => (if l3 ≤ l4 then ((1 : Int32), σ) else (if l2 < 0 then ((1 : Int32), σ) else (f_X10_sheet_L77 n (ma σ 59 (Int32.toNatClampNeg (((40 : Int32) * l1) + l4)) (0 : Int32)) l1 l2 l3 (l4 + (1 : Int32)))))
set_option maxRecDepth 100000 in
set_option maxHeartbeats 1000000 in
theorem lp_X10_sheet_77 {g : GC} {E : ME} {d : Nat} {K : Option Value → MSt → Prop} (hE : MEok E) (hd : 2 ≤ d) : ∀ (fuel : Nat) (σ : MSt) (l1 : Int32) (l2 : Int32) (l3 : Int32) (l4 : Int32), vp_in l1 4 → (l2 < 0 ∨ Ct l3 40) → Ct l4 40 → 41 - l4.toNatClampNeg < fuel → K (some (.int (f_X10_sheet_L77 fuel σ l1 l2 l3 l4).1)) (f_X10_sheet_L77 fuel σ l1 l2 l3 l4).2 → MW g E cX10_sheet 5 (some FieldType.int) "sheet" d K 77 [(0, .ref E.2.2), (1, .int l1), (2, .int l2), (3, .int l3), (4, .int l4)] [] σ := by
  intro fuel
  induction fuel with
  | zero => intro σ l1 l2 l3 l4 i0 i1 i2 hm hK; exact absurd hm (Nat.not_lt_zero _)
  | succ n ih =>
    intro σ l1 l2 l3 l4 i0 i1 i2 hm hK
    refine r_iload dX10_sheet_77 rfl ?_
    refine r_iload_n dX10_sheet_79 rfl ?_
    refine r_icmp_ge (tgt := 106) dX10_sheet_80 (by decide) (fun c13 => ?_) (fun c13 => ?_)
    · refine r_iconst (v := (1 : Int32)) dX10_sheet_106 (by decide) ?_
      refine r_iret dX10_sheet_107 rfl rfl ?_
      exact ⟨_, rfl, by rw [f_X10_sheet_L77, if_pos c13] at hK; exact hK⟩
    · refine r_iload_n dX10_sheet_83 rfl ?_
      refine r_if_lt (tgt := 106) dX10_sheet_84 (by decide) (fun c14 => ?_) (fun c14 => ?_)
      · refine r_iconst (v := (1 : Int32)) dX10_sheet_106 (by decide) ?_
        refine r_iret dX10_sheet_107 rfl rfl ?_
        exact ⟨_, rfl, by rw [f_X10_sheet_L77, if_neg c13, if_pos c14] at hK; exact hK⟩
      · refine r_aload_n dX10_sheet_87 rfl ?_
        refine m_get dX10_sheet_88 fl_RX10_114 rfl ?_
        refine r_bipush (v := (40 : Int32)) dX10_sheet_91 (by decide) ?_
        refine r_iload_n dX10_sheet_93 rfl ?_
        refine r_imul dX10_sheet_94 ?_
        refine r_iload dX10_sheet_95 rfl ?_
        refine r_iadd dX10_sheet_97 ?_
        refine r_iconst (v := (0 : Int32)) dX10_sheet_98 (by decide) ?_
        refine m_iast (k := 59) (N := 160) hE (by decide) rfl rfl dX10_sheet_99 (by exact sx_in i0 (Ct.up (by decide) (Or.resolve_left i1 (by with_reducible assumption)) i2 (by with_reducible assumption)).1) ?_
        refine r_iinc2 (w := (1 : Int32)) dX10_sheet_100 rfl (by decide) (by decide) ?_
        refine r_goto (tgt := 77) dX10_sheet_103 (by decide) ?_
        refine r_loc (L' := [(0, .ref E.2.2), (1, .int l1), (2, .int l2), (3, .int l3), (4, .int (l4 + (1 : Int32)))]) [1, 2, 3, 4, 0] rfl ?_
        exact ih (ma σ 59 (Int32.toNatClampNeg (((40 : Int32) * l1) + l4)) (0 : Int32))  l1 l2 l3 (l4 + (1 : Int32)) (by exact i0) (by exact i1) (by exact (Ct.up (by decide) (Or.resolve_left i1 (by with_reducible assumption)) i2 (by with_reducible assumption)).2.1) (by have u := (Ct.up (by decide) (Or.resolve_left i1 (by with_reducible assumption)) i2 (by with_reducible assumption)).2.2; omega) (by rw [f_X10_sheet_L77, if_neg c13, if_neg c14] at hK; exact hK)
def f_X10_sheet (σ : MSt) (p1 : Int32) (p2 : Int32) (p3 : Int32) : Int32 × MSt := (if (f_X10_isSheet p1) = 0 then ((-2 : Int32), σ) else (if (f_X10_in (Int32.toInt64 p2) (-1 : Int64) (2 : Int64)) = 0 then ((-2 : Int32), σ) else (if p2 < 0 then (if p2 < 0 then (if p2 < 0 then (f_X10_sheet_L77 (42) (ma (ma (ma σ 56 (Int32.toNatClampNeg p1) (0 : Int32)) 57 (Int32.toNatClampNeg p1) p2) 58 (Int32.toNatClampNeg p1) p3) p1 p2 p3 (0 : Int32)) else (f_X10_sheet_L77 (42) (ma (ma (ma σ 56 (Int32.toNatClampNeg p1) (1 : Int32)) 57 (Int32.toNatClampNeg p1) p2) 58 (Int32.toNatClampNeg p1) p3) p1 p2 p3 (0 : Int32))) else (if 0 ≤ p3 then (if p2 < 0 then (f_X10_sheet_L77 (42) (ma (ma (ma σ 56 (Int32.toNatClampNeg p1) (0 : Int32)) 57 (Int32.toNatClampNeg p1) p2) 58 (Int32.toNatClampNeg p1) p3) p1 p2 p3 (0 : Int32)) else (f_X10_sheet_L77 (42) (ma (ma (ma σ 56 (Int32.toNatClampNeg p1) (1 : Int32)) 57 (Int32.toNatClampNeg p1) p2) 58 (Int32.toNatClampNeg p1) p3) p1 p2 p3 (0 : Int32))) else ((-14 : Int32), σ))) else (if p3 ≤ (40 : Int32) then (if p2 < 0 then (if p2 < 0 then (f_X10_sheet_L77 (42) (ma (ma (ma σ 56 (Int32.toNatClampNeg p1) (0 : Int32)) 57 (Int32.toNatClampNeg p1) p2) 58 (Int32.toNatClampNeg p1) p3) p1 p2 p3 (0 : Int32)) else (f_X10_sheet_L77 (42) (ma (ma (ma σ 56 (Int32.toNatClampNeg p1) (1 : Int32)) 57 (Int32.toNatClampNeg p1) p2) 58 (Int32.toNatClampNeg p1) p3) p1 p2 p3 (0 : Int32))) else (if 0 ≤ p3 then (if p2 < 0 then (f_X10_sheet_L77 (42) (ma (ma (ma σ 56 (Int32.toNatClampNeg p1) (0 : Int32)) 57 (Int32.toNatClampNeg p1) p2) 58 (Int32.toNatClampNeg p1) p3) p1 p2 p3 (0 : Int32)) else (f_X10_sheet_L77 (42) (ma (ma (ma σ 56 (Int32.toNatClampNeg p1) (1 : Int32)) 57 (Int32.toNatClampNeg p1) p2) 58 (Int32.toNatClampNeg p1) p3) p1 p2 p3 (0 : Int32))) else ((-14 : Int32), σ))) else ((-2 : Int32), σ)))))
set_option maxRecDepth 100000 in
set_option maxHeartbeats 1000000 in
theorem ok_X10_sheet {g : GC} {E : ME} {d : Nat} (hE : MEok E) (hd : 2 ≤ d) (σ : MSt) (p1 : Int32) (p2 : Int32) (p3 : Int32) (h0 : MInv σ) : MC g E d yX10_sheet cX10_sheet 5 (some FieldType.int) [.int p1, .int p2, .int p3] (fun v σ' => v = some (.int (f_X10_sheet σ p1 p2 p3).1) ∧ σ' = (f_X10_sheet σ p1 p2 p3).2) σ := by
  refine AM.of2 (own := RX10) (nm := "sheet") (L0 := [(0, .ref E.2.2), (1, .int p1), (2, .int p2), (3, .int p3)]) (by decide) rfl rfl (Nat.le_of_ble_eq_true rfl) rfl ?_
  refine r_iload_n dX10_sheet_0 rfl ?_
  refine m_callS dX10_sheet_1 mf_X10_isSheet ml_RX10_440 (ok_X10_isSheet (d := d - 1) (by omega) _) rfl rfl (Nat.le_of_ble_eq_true rfl) (by omega) ?_
  refine r_if_eq (tgt := 31) dX10_sheet_4 (by decide) (fun c1 => ?_) (fun c1 => ?_)
  · refine r_bipush (v := (-2 : Int32)) dX10_sheet_31 (by decide) ?_
    refine r_iret dX10_sheet_33 rfl rfl ?_
    exact ⟨_, rfl, by rw [f_X10_sheet, if_pos c1], by rw [f_X10_sheet, if_pos c1]⟩
  · refine r_iload_n dX10_sheet_7 rfl ?_
    refine r_i2l dX10_sheet_8 ?_
    refine r_ldc2 dX10_sheet_9 kc_RX10_273 ?_
    refine r_ldc2 dX10_sheet_12 kc_RX10_168 ?_
    refine m_callS dX10_sheet_15 mf_X10_in ml_RX10_149 (ok_X10_in (d := d - 1) (by omega) _ _ _) rfl rfl (Nat.le_of_ble_eq_true rfl) (by omega) ?_
    refine r_if_eq (tgt := 31) dX10_sheet_18 (by decide) (fun c2 => ?_) (fun c2 => ?_)
    · refine r_bipush (v := (-2 : Int32)) dX10_sheet_31 (by decide) ?_
      refine r_iret dX10_sheet_33 rfl rfl ?_
      exact ⟨_, rfl, by rw [f_X10_sheet, if_neg c1, if_pos c2], by rw [f_X10_sheet, if_neg c1, if_pos c2]⟩
    · refine r_iload_n dX10_sheet_21 rfl ?_
      refine r_if_lt (tgt := 34) dX10_sheet_22 (by decide) (fun c3 => ?_) (fun c3 => ?_)
      · refine r_iload_n dX10_sheet_34 rfl ?_
        refine r_if_lt (tgt := 45) dX10_sheet_35 (by decide) (fun c4 => ?_) (fun c4 => ?_)
        · refine r_aload_n dX10_sheet_45 rfl ?_
          refine m_get dX10_sheet_46 fl_RX10_104 rfl ?_
          refine r_iload_n dX10_sheet_49 rfl ?_
          refine r_iload_n dX10_sheet_50 rfl ?_
          refine r_if_lt (tgt := 58) dX10_sheet_51 (by decide) (fun c5 => ?_) (fun c5 => ?_)
          · refine r_iconst (v := (0 : Int32)) dX10_sheet_58 (by decide) ?_
            refine m_zast hE dX10_sheet_59 (by exact isSheet_in (by with_reducible assumption)) (by decide) ?_
            refine r_aload_n dX10_sheet_60 rfl ?_
            refine m_get dX10_sheet_61 fl_RX10_108 rfl ?_
            refine r_iload_n dX10_sheet_64 rfl ?_
            refine r_iload_n dX10_sheet_65 rfl ?_
            refine m_iast (k := 57) (N := 4) hE (by decide) rfl rfl dX10_sheet_66 (by exact isSheet_in (by with_reducible assumption)) ?_
            refine r_aload_n dX10_sheet_67 rfl ?_
            refine m_get dX10_sheet_68 fl_RX10_111 rfl ?_
            refine r_iload_n dX10_sheet_71 rfl ?_
            refine r_iload_n dX10_sheet_72 rfl ?_
            refine m_iast (k := 58) (N := 4) hE (by decide) rfl rfl dX10_sheet_73 (by exact isSheet_in (by with_reducible assumption)) ?_
            refine r_iconst (v := (0 : Int32)) dX10_sheet_74 (by decide) ?_
            refine r_istore dX10_sheet_75 (by decide) ?_
            refine r_loc (L' := [(0, .ref E.2.2), (1, .int p1), (2, .int p2), (3, .int p3), (4, .int (0 : Int32))]) [1, 2, 3, 4, 0] rfl ?_
            exact lp_X10_sheet_77 hE (by omega) (42) (ma (ma (ma σ 56 (Int32.toNatClampNeg p1) (0 : Int32)) 57 (Int32.toNatClampNeg p1) p2) 58 (Int32.toNatClampNeg p1) p3) p1 p2 p3 (0 : Int32) (by exact isSheet_in (by with_reducible assumption)) (by first | exact Or.inl (by with_reducible assumption) | exact Or.inr (ct_rg (by with_reducible assumption) (by with_reducible assumption))) (by exact Ct.zero _) (by decide) ⟨by rw [f_X10_sheet, if_neg c1, if_neg c2, if_pos c3, if_pos c4, if_pos c5], by rw [f_X10_sheet, if_neg c1, if_neg c2, if_pos c3, if_pos c4, if_pos c5]⟩
          · refine r_iconst (v := (1 : Int32)) dX10_sheet_54 (by decide) ?_
            refine r_goto (tgt := 59) dX10_sheet_55 (by decide) ?_
            refine m_zast hE dX10_sheet_59 (by exact isSheet_in (by with_reducible assumption)) (by decide) ?_
            refine r_aload_n dX10_sheet_60 rfl ?_
            refine m_get dX10_sheet_61 fl_RX10_108 rfl ?_
            refine r_iload_n dX10_sheet_64 rfl ?_
            refine r_iload_n dX10_sheet_65 rfl ?_
            refine m_iast (k := 57) (N := 4) hE (by decide) rfl rfl dX10_sheet_66 (by exact isSheet_in (by with_reducible assumption)) ?_
            refine r_aload_n dX10_sheet_67 rfl ?_
            refine m_get dX10_sheet_68 fl_RX10_111 rfl ?_
            refine r_iload_n dX10_sheet_71 rfl ?_
            refine r_iload_n dX10_sheet_72 rfl ?_
            refine m_iast (k := 58) (N := 4) hE (by decide) rfl rfl dX10_sheet_73 (by exact isSheet_in (by with_reducible assumption)) ?_
            refine r_iconst (v := (0 : Int32)) dX10_sheet_74 (by decide) ?_
            refine r_istore dX10_sheet_75 (by decide) ?_
            refine r_loc (L' := [(0, .ref E.2.2), (1, .int p1), (2, .int p2), (3, .int p3), (4, .int (0 : Int32))]) [1, 2, 3, 4, 0] rfl ?_
            exact lp_X10_sheet_77 hE (by omega) (42) (ma (ma (ma σ 56 (Int32.toNatClampNeg p1) (1 : Int32)) 57 (Int32.toNatClampNeg p1) p2) 58 (Int32.toNatClampNeg p1) p3) p1 p2 p3 (0 : Int32) (by exact isSheet_in (by with_reducible assumption)) (by first | exact Or.inl (by with_reducible assumption) | exact Or.inr (ct_rg (by with_reducible assumption) (by with_reducible assumption))) (by exact Ct.zero _) (by decide) ⟨by rw [f_X10_sheet, if_neg c1, if_neg c2, if_pos c3, if_pos c4, if_neg c5], by rw [f_X10_sheet, if_neg c1, if_neg c2, if_pos c3, if_pos c4, if_neg c5]⟩
        · refine r_iload_n dX10_sheet_38 rfl ?_
          refine r_if_ge (tgt := 45) dX10_sheet_39 (by decide) (fun c6 => ?_) (fun c6 => ?_)
          · refine r_aload_n dX10_sheet_45 rfl ?_
            refine m_get dX10_sheet_46 fl_RX10_104 rfl ?_
            refine r_iload_n dX10_sheet_49 rfl ?_
            refine r_iload_n dX10_sheet_50 rfl ?_
            refine r_if_lt (tgt := 58) dX10_sheet_51 (by decide) (fun c7 => ?_) (fun c7 => ?_)
            · refine r_iconst (v := (0 : Int32)) dX10_sheet_58 (by decide) ?_
              refine m_zast hE dX10_sheet_59 (by exact isSheet_in (by with_reducible assumption)) (by decide) ?_
              refine r_aload_n dX10_sheet_60 rfl ?_
              refine m_get dX10_sheet_61 fl_RX10_108 rfl ?_
              refine r_iload_n dX10_sheet_64 rfl ?_
              refine r_iload_n dX10_sheet_65 rfl ?_
              refine m_iast (k := 57) (N := 4) hE (by decide) rfl rfl dX10_sheet_66 (by exact isSheet_in (by with_reducible assumption)) ?_
              refine r_aload_n dX10_sheet_67 rfl ?_
              refine m_get dX10_sheet_68 fl_RX10_111 rfl ?_
              refine r_iload_n dX10_sheet_71 rfl ?_
              refine r_iload_n dX10_sheet_72 rfl ?_
              refine m_iast (k := 58) (N := 4) hE (by decide) rfl rfl dX10_sheet_73 (by exact isSheet_in (by with_reducible assumption)) ?_
              refine r_iconst (v := (0 : Int32)) dX10_sheet_74 (by decide) ?_
              refine r_istore dX10_sheet_75 (by decide) ?_
              refine r_loc (L' := [(0, .ref E.2.2), (1, .int p1), (2, .int p2), (3, .int p3), (4, .int (0 : Int32))]) [1, 2, 3, 4, 0] rfl ?_
              exact lp_X10_sheet_77 hE (by omega) (42) (ma (ma (ma σ 56 (Int32.toNatClampNeg p1) (0 : Int32)) 57 (Int32.toNatClampNeg p1) p2) 58 (Int32.toNatClampNeg p1) p3) p1 p2 p3 (0 : Int32) (by exact isSheet_in (by with_reducible assumption)) (by first | exact Or.inl (by with_reducible assumption) | exact Or.inr (ct_rg (by with_reducible assumption) (by with_reducible assumption))) (by exact Ct.zero _) (by decide) ⟨by rw [f_X10_sheet, if_neg c1, if_neg c2, if_pos c3, if_neg c4, if_pos c6, if_pos c7], by rw [f_X10_sheet, if_neg c1, if_neg c2, if_pos c3, if_neg c4, if_pos c6, if_pos c7]⟩
            · refine r_iconst (v := (1 : Int32)) dX10_sheet_54 (by decide) ?_
              refine r_goto (tgt := 59) dX10_sheet_55 (by decide) ?_
              refine m_zast hE dX10_sheet_59 (by exact isSheet_in (by with_reducible assumption)) (by decide) ?_
              refine r_aload_n dX10_sheet_60 rfl ?_
              refine m_get dX10_sheet_61 fl_RX10_108 rfl ?_
              refine r_iload_n dX10_sheet_64 rfl ?_
              refine r_iload_n dX10_sheet_65 rfl ?_
              refine m_iast (k := 57) (N := 4) hE (by decide) rfl rfl dX10_sheet_66 (by exact isSheet_in (by with_reducible assumption)) ?_
              refine r_aload_n dX10_sheet_67 rfl ?_
              refine m_get dX10_sheet_68 fl_RX10_111 rfl ?_
              refine r_iload_n dX10_sheet_71 rfl ?_
              refine r_iload_n dX10_sheet_72 rfl ?_
              refine m_iast (k := 58) (N := 4) hE (by decide) rfl rfl dX10_sheet_73 (by exact isSheet_in (by with_reducible assumption)) ?_
              refine r_iconst (v := (0 : Int32)) dX10_sheet_74 (by decide) ?_
              refine r_istore dX10_sheet_75 (by decide) ?_
              refine r_loc (L' := [(0, .ref E.2.2), (1, .int p1), (2, .int p2), (3, .int p3), (4, .int (0 : Int32))]) [1, 2, 3, 4, 0] rfl ?_
              exact lp_X10_sheet_77 hE (by omega) (42) (ma (ma (ma σ 56 (Int32.toNatClampNeg p1) (1 : Int32)) 57 (Int32.toNatClampNeg p1) p2) 58 (Int32.toNatClampNeg p1) p3) p1 p2 p3 (0 : Int32) (by exact isSheet_in (by with_reducible assumption)) (by first | exact Or.inl (by with_reducible assumption) | exact Or.inr (ct_rg (by with_reducible assumption) (by with_reducible assumption))) (by exact Ct.zero _) (by decide) ⟨by rw [f_X10_sheet, if_neg c1, if_neg c2, if_pos c3, if_neg c4, if_pos c6, if_neg c7], by rw [f_X10_sheet, if_neg c1, if_neg c2, if_pos c3, if_neg c4, if_pos c6, if_neg c7]⟩
          · refine r_bipush (v := (-14 : Int32)) dX10_sheet_42 (by decide) ?_
            refine r_iret dX10_sheet_44 rfl rfl ?_
            exact ⟨_, rfl, by rw [f_X10_sheet, if_neg c1, if_neg c2, if_pos c3, if_neg c4, if_neg c6], by rw [f_X10_sheet, if_neg c1, if_neg c2, if_pos c3, if_neg c4, if_neg c6]⟩
      · refine r_iload_n dX10_sheet_25 rfl ?_
        refine r_bipush (v := (40 : Int32)) dX10_sheet_26 (by decide) ?_
        refine r_icmp_le (tgt := 34) dX10_sheet_28 (by decide) (fun c8 => ?_) (fun c8 => ?_)
        · refine r_iload_n dX10_sheet_34 rfl ?_
          refine r_if_lt (tgt := 45) dX10_sheet_35 (by decide) (fun c9 => ?_) (fun c9 => ?_)
          · refine r_aload_n dX10_sheet_45 rfl ?_
            refine m_get dX10_sheet_46 fl_RX10_104 rfl ?_
            refine r_iload_n dX10_sheet_49 rfl ?_
            refine r_iload_n dX10_sheet_50 rfl ?_
            refine r_if_lt (tgt := 58) dX10_sheet_51 (by decide) (fun c10 => ?_) (fun c10 => ?_)
            · refine r_iconst (v := (0 : Int32)) dX10_sheet_58 (by decide) ?_
              refine m_zast hE dX10_sheet_59 (by exact isSheet_in (by with_reducible assumption)) (by decide) ?_
              refine r_aload_n dX10_sheet_60 rfl ?_
              refine m_get dX10_sheet_61 fl_RX10_108 rfl ?_
              refine r_iload_n dX10_sheet_64 rfl ?_
              refine r_iload_n dX10_sheet_65 rfl ?_
              refine m_iast (k := 57) (N := 4) hE (by decide) rfl rfl dX10_sheet_66 (by exact isSheet_in (by with_reducible assumption)) ?_
              refine r_aload_n dX10_sheet_67 rfl ?_
              refine m_get dX10_sheet_68 fl_RX10_111 rfl ?_
              refine r_iload_n dX10_sheet_71 rfl ?_
              refine r_iload_n dX10_sheet_72 rfl ?_
              refine m_iast (k := 58) (N := 4) hE (by decide) rfl rfl dX10_sheet_73 (by exact isSheet_in (by with_reducible assumption)) ?_
              refine r_iconst (v := (0 : Int32)) dX10_sheet_74 (by decide) ?_
              refine r_istore dX10_sheet_75 (by decide) ?_
              refine r_loc (L' := [(0, .ref E.2.2), (1, .int p1), (2, .int p2), (3, .int p3), (4, .int (0 : Int32))]) [1, 2, 3, 4, 0] rfl ?_
              exact lp_X10_sheet_77 hE (by omega) (42) (ma (ma (ma σ 56 (Int32.toNatClampNeg p1) (0 : Int32)) 57 (Int32.toNatClampNeg p1) p2) 58 (Int32.toNatClampNeg p1) p3) p1 p2 p3 (0 : Int32) (by exact isSheet_in (by with_reducible assumption)) (by first | exact Or.inl (by with_reducible assumption) | exact Or.inr (ct_rg (by with_reducible assumption) (by with_reducible assumption))) (by exact Ct.zero _) (by decide) ⟨by rw [f_X10_sheet, if_neg c1, if_neg c2, if_neg c3, if_pos c8, if_pos c9, if_pos c10], by rw [f_X10_sheet, if_neg c1, if_neg c2, if_neg c3, if_pos c8, if_pos c9, if_pos c10]⟩
            · refine r_iconst (v := (1 : Int32)) dX10_sheet_54 (by decide) ?_
              refine r_goto (tgt := 59) dX10_sheet_55 (by decide) ?_
              refine m_zast hE dX10_sheet_59 (by exact isSheet_in (by with_reducible assumption)) (by decide) ?_
              refine r_aload_n dX10_sheet_60 rfl ?_
              refine m_get dX10_sheet_61 fl_RX10_108 rfl ?_
              refine r_iload_n dX10_sheet_64 rfl ?_
              refine r_iload_n dX10_sheet_65 rfl ?_
              refine m_iast (k := 57) (N := 4) hE (by decide) rfl rfl dX10_sheet_66 (by exact isSheet_in (by with_reducible assumption)) ?_
              refine r_aload_n dX10_sheet_67 rfl ?_
              refine m_get dX10_sheet_68 fl_RX10_111 rfl ?_
              refine r_iload_n dX10_sheet_71 rfl ?_
              refine r_iload_n dX10_sheet_72 rfl ?_
              refine m_iast (k := 58) (N := 4) hE (by decide) rfl rfl dX10_sheet_73 (by exact isSheet_in (by with_reducible assumption)) ?_
              refine r_iconst (v := (0 : Int32)) dX10_sheet_74 (by decide) ?_
              refine r_istore dX10_sheet_75 (by decide) ?_
              refine r_loc (L' := [(0, .ref E.2.2), (1, .int p1), (2, .int p2), (3, .int p3), (4, .int (0 : Int32))]) [1, 2, 3, 4, 0] rfl ?_
              exact lp_X10_sheet_77 hE (by omega) (42) (ma (ma (ma σ 56 (Int32.toNatClampNeg p1) (1 : Int32)) 57 (Int32.toNatClampNeg p1) p2) 58 (Int32.toNatClampNeg p1) p3) p1 p2 p3 (0 : Int32) (by exact isSheet_in (by with_reducible assumption)) (by first | exact Or.inl (by with_reducible assumption) | exact Or.inr (ct_rg (by with_reducible assumption) (by with_reducible assumption))) (by exact Ct.zero _) (by decide) ⟨by rw [f_X10_sheet, if_neg c1, if_neg c2, if_neg c3, if_pos c8, if_pos c9, if_neg c10], by rw [f_X10_sheet, if_neg c1, if_neg c2, if_neg c3, if_pos c8, if_pos c9, if_neg c10]⟩
          · refine r_iload_n dX10_sheet_38 rfl ?_
            refine r_if_ge (tgt := 45) dX10_sheet_39 (by decide) (fun c11 => ?_) (fun c11 => ?_)
            · refine r_aload_n dX10_sheet_45 rfl ?_
              refine m_get dX10_sheet_46 fl_RX10_104 rfl ?_
              refine r_iload_n dX10_sheet_49 rfl ?_
              refine r_iload_n dX10_sheet_50 rfl ?_
              refine r_if_lt (tgt := 58) dX10_sheet_51 (by decide) (fun c12 => ?_) (fun c12 => ?_)
              · refine r_iconst (v := (0 : Int32)) dX10_sheet_58 (by decide) ?_
                refine m_zast hE dX10_sheet_59 (by exact isSheet_in (by with_reducible assumption)) (by decide) ?_
                refine r_aload_n dX10_sheet_60 rfl ?_
                refine m_get dX10_sheet_61 fl_RX10_108 rfl ?_
                refine r_iload_n dX10_sheet_64 rfl ?_
                refine r_iload_n dX10_sheet_65 rfl ?_
                refine m_iast (k := 57) (N := 4) hE (by decide) rfl rfl dX10_sheet_66 (by exact isSheet_in (by with_reducible assumption)) ?_
                refine r_aload_n dX10_sheet_67 rfl ?_
                refine m_get dX10_sheet_68 fl_RX10_111 rfl ?_
                refine r_iload_n dX10_sheet_71 rfl ?_
                refine r_iload_n dX10_sheet_72 rfl ?_
                refine m_iast (k := 58) (N := 4) hE (by decide) rfl rfl dX10_sheet_73 (by exact isSheet_in (by with_reducible assumption)) ?_
                refine r_iconst (v := (0 : Int32)) dX10_sheet_74 (by decide) ?_
                refine r_istore dX10_sheet_75 (by decide) ?_
                refine r_loc (L' := [(0, .ref E.2.2), (1, .int p1), (2, .int p2), (3, .int p3), (4, .int (0 : Int32))]) [1, 2, 3, 4, 0] rfl ?_
                exact lp_X10_sheet_77 hE (by omega) (42) (ma (ma (ma σ 56 (Int32.toNatClampNeg p1) (0 : Int32)) 57 (Int32.toNatClampNeg p1) p2) 58 (Int32.toNatClampNeg p1) p3) p1 p2 p3 (0 : Int32) (by exact isSheet_in (by with_reducible assumption)) (by first | exact Or.inl (by with_reducible assumption) | exact Or.inr (ct_rg (by with_reducible assumption) (by with_reducible assumption))) (by exact Ct.zero _) (by decide) ⟨by rw [f_X10_sheet, if_neg c1, if_neg c2, if_neg c3, if_pos c8, if_neg c9, if_pos c11, if_pos c12], by rw [f_X10_sheet, if_neg c1, if_neg c2, if_neg c3, if_pos c8, if_neg c9, if_pos c11, if_pos c12]⟩
              · refine r_iconst (v := (1 : Int32)) dX10_sheet_54 (by decide) ?_
                refine r_goto (tgt := 59) dX10_sheet_55 (by decide) ?_
                refine m_zast hE dX10_sheet_59 (by exact isSheet_in (by with_reducible assumption)) (by decide) ?_
                refine r_aload_n dX10_sheet_60 rfl ?_
                refine m_get dX10_sheet_61 fl_RX10_108 rfl ?_
                refine r_iload_n dX10_sheet_64 rfl ?_
                refine r_iload_n dX10_sheet_65 rfl ?_
                refine m_iast (k := 57) (N := 4) hE (by decide) rfl rfl dX10_sheet_66 (by exact isSheet_in (by with_reducible assumption)) ?_
                refine r_aload_n dX10_sheet_67 rfl ?_
                refine m_get dX10_sheet_68 fl_RX10_111 rfl ?_
                refine r_iload_n dX10_sheet_71 rfl ?_
                refine r_iload_n dX10_sheet_72 rfl ?_
                refine m_iast (k := 58) (N := 4) hE (by decide) rfl rfl dX10_sheet_73 (by exact isSheet_in (by with_reducible assumption)) ?_
                refine r_iconst (v := (0 : Int32)) dX10_sheet_74 (by decide) ?_
                refine r_istore dX10_sheet_75 (by decide) ?_
                refine r_loc (L' := [(0, .ref E.2.2), (1, .int p1), (2, .int p2), (3, .int p3), (4, .int (0 : Int32))]) [1, 2, 3, 4, 0] rfl ?_
                exact lp_X10_sheet_77 hE (by omega) (42) (ma (ma (ma σ 56 (Int32.toNatClampNeg p1) (1 : Int32)) 57 (Int32.toNatClampNeg p1) p2) 58 (Int32.toNatClampNeg p1) p3) p1 p2 p3 (0 : Int32) (by exact isSheet_in (by with_reducible assumption)) (by first | exact Or.inl (by with_reducible assumption) | exact Or.inr (ct_rg (by with_reducible assumption) (by with_reducible assumption))) (by exact Ct.zero _) (by decide) ⟨by rw [f_X10_sheet, if_neg c1, if_neg c2, if_neg c3, if_pos c8, if_neg c9, if_pos c11, if_neg c12], by rw [f_X10_sheet, if_neg c1, if_neg c2, if_neg c3, if_pos c8, if_neg c9, if_pos c11, if_neg c12]⟩
            · refine r_bipush (v := (-14 : Int32)) dX10_sheet_42 (by decide) ?_
              refine r_iret dX10_sheet_44 rfl rfl ?_
              exact ⟨_, rfl, by rw [f_X10_sheet, if_neg c1, if_neg c2, if_neg c3, if_pos c8, if_neg c9, if_neg c11], by rw [f_X10_sheet, if_neg c1, if_neg c2, if_neg c3, if_pos c8, if_neg c9, if_neg c11]⟩
        · refine r_bipush (v := (-2 : Int32)) dX10_sheet_31 (by decide) ?_
          refine r_iret dX10_sheet_33 rfl rfl ?_
          exact ⟨_, rfl, by rw [f_X10_sheet, if_neg c1, if_neg c2, if_neg c3, if_neg c8], by rw [f_X10_sheet, if_neg c1, if_neg c2, if_neg c3, if_neg c8]⟩

def f_X10_cell (σ : MSt) (p1 : Int32) (p2 : Int32) (p3 : Int32) : Int32 × MSt := (if (f_X10_isSheet p1) = 0 then ((-2 : Int32), σ) else (if (σ.2.2 56 (Int32.toNatClampNeg p1)) = 0 then ((-11 : Int32), σ) else (if (f_X10_in (Int32.toInt64 p2) (0 : Int64) (Int32.toInt64 ((σ.2.2 58 (Int32.toNatClampNeg p1)) - (1 : Int32)))) = 0 then ((-12 : Int32), σ) else (if (σ.2.2 57 (Int32.toNatClampNeg p1)) = 0 then ((1 : Int32), (ma σ 59 (Int32.toNatClampNeg (((40 : Int32) * p1) + p2)) (Int8.toInt32 (Int32.toInt8 p3)))) else (if (σ.2.2 57 (Int32.toNatClampNeg p1)) = (1 : Int32) then ((1 : Int32), (ma σ 59 (Int32.toNatClampNeg (((40 : Int32) * p1) + p2)) (Int16.toInt32 (Int32.toInt16 p3)))) else ((1 : Int32), (ma σ 59 (Int32.toNatClampNeg (((40 : Int32) * p1) + p2)) p3)))))))
set_option maxRecDepth 100000 in
set_option maxHeartbeats 1000000 in
theorem ok_X10_cell {g : GC} {E : ME} {d : Nat} (hE : MEok E) (hd : 2 ≤ d) (σ : MSt) (p1 : Int32) (p2 : Int32) (p3 : Int32) (h0 : MInv σ) : MC g E d yX10_cell cX10_cell 4 (some FieldType.int) [.int p1, .int p2, .int p3] (fun v σ' => v = some (.int (f_X10_cell σ p1 p2 p3).1) ∧ σ' = (f_X10_cell σ p1 p2 p3).2) σ := by
  refine AM.of2 (own := RX10) (nm := "cell") (L0 := [(0, .ref E.2.2), (1, .int p1), (2, .int p2), (3, .int p3)]) (by decide) rfl rfl (Nat.le_of_ble_eq_true rfl) rfl ?_
  refine r_iload_n dX10_cell_0 rfl ?_
  refine m_callS dX10_cell_1 mf_X10_isSheet ml_RX10_440 (ok_X10_isSheet (d := d - 1) (by omega) _) rfl rfl (Nat.le_of_ble_eq_true rfl) (by omega) ?_
  refine r_if_ne (tgt := 10) dX10_cell_4 (by decide) (fun c1 => ?_) (fun c1 => ?_)
  · refine r_aload_n dX10_cell_10 rfl ?_
    refine m_get dX10_cell_11 fl_RX10_104 rfl ?_
    refine r_iload_n dX10_cell_14 rfl ?_
    refine m_zald hE dX10_cell_15 (by exact isSheet_in (by with_reducible assumption)) ?_
    refine r_if_ne (tgt := 22) dX10_cell_16 (by decide) (fun c2 => ?_) (fun c2 => ?_)
    · refine r_iload_n dX10_cell_22 rfl ?_
      refine r_i2l dX10_cell_23 ?_
      refine r_lconst (v := (0 : Int64)) dX10_cell_24 (by decide) ?_
      refine r_aload_n dX10_cell_25 rfl ?_
      refine m_get dX10_cell_26 fl_RX10_111 rfl ?_
      refine r_iload_n dX10_cell_29 rfl ?_
      refine m_iald (k := 58) (N := 4) hE (by decide) rfl rfl dX10_cell_30 (by exact isSheet_in (by with_reducible assumption)) ?_
      refine r_iconst (v := (1 : Int32)) dX10_cell_31 (by decide) ?_
      refine r_isub dX10_cell_32 ?_
      refine r_i2l dX10_cell_33 ?_
      refine m_callS dX10_cell_34 mf_X10_in ml_RX10_149 (ok_X10_in (d := d - 1) (by omega) _ _ _) rfl rfl (Nat.le_of_ble_eq_true rfl) (by omega) ?_
      refine r_if_ne (tgt := 43) dX10_cell_37 (by decide) (fun c3 => ?_) (fun c3 => ?_)
      · refine r_aload_n dX10_cell_43 rfl ?_
        refine m_get dX10_cell_44 fl_RX10_114 rfl ?_
        refine r_bipush (v := (40 : Int32)) dX10_cell_47 (by decide) ?_
        refine r_iload_n dX10_cell_49 rfl ?_
        refine r_imul dX10_cell_50 ?_
        refine r_iload_n dX10_cell_51 rfl ?_
        refine r_iadd dX10_cell_52 ?_
        refine r_aload_n dX10_cell_53 rfl ?_
        refine m_get dX10_cell_54 fl_RX10_108 rfl ?_
        refine r_iload_n dX10_cell_57 rfl ?_
        refine m_iald (k := 57) (N := 4) hE (by decide) rfl rfl dX10_cell_58 (by exact isSheet_in (by with_reducible assumption)) ?_
        refine r_if_ne (tgt := 67) dX10_cell_59 (by decide) (fun c4 => ?_) (fun c4 => ?_)
        · refine r_aload_n dX10_cell_67 rfl ?_
          refine m_get dX10_cell_68 fl_RX10_108 rfl ?_
          refine r_iload_n dX10_cell_71 rfl ?_
          refine m_iald (k := 57) (N := 4) hE (by decide) rfl rfl dX10_cell_72 (by exact isSheet_in (by with_reducible assumption)) ?_
          refine r_iconst (v := (1 : Int32)) dX10_cell_73 (by decide) ?_
          refine r_icmp_ne (tgt := 82) dX10_cell_74 (by decide) (fun c5 => ?_) (fun c5 => ?_)
          · refine r_iload_n dX10_cell_82 rfl ?_
            refine m_iast (k := 59) (N := 160) hE (by decide) rfl rfl dX10_cell_83 (by exact cell_in h0 (isSheet_in (by with_reducible assumption)) (by with_reducible assumption) (by with_reducible assumption)) ?_
            refine r_iconst (v := (1 : Int32)) dX10_cell_84 (by decide) ?_
            refine r_iret dX10_cell_85 rfl rfl ?_
            exact ⟨_, rfl, by rw [f_X10_cell, if_neg c1, if_neg c2, if_neg c3, if_neg c4, if_neg c5], by rw [f_X10_cell, if_neg c1, if_neg c2, if_neg c3, if_neg c4, if_neg c5]⟩
          · refine r_iload_n dX10_cell_77 rfl ?_
            refine r_i2s dX10_cell_78 ?_
            refine r_goto (tgt := 83) dX10_cell_79 (by decide) ?_
            refine m_iast (k := 59) (N := 160) hE (by decide) rfl rfl dX10_cell_83 (by exact cell_in h0 (isSheet_in (by with_reducible assumption)) (by with_reducible assumption) (by with_reducible assumption)) ?_
            refine r_iconst (v := (1 : Int32)) dX10_cell_84 (by decide) ?_
            refine r_iret dX10_cell_85 rfl rfl ?_
            exact ⟨_, rfl, by rw [f_X10_cell, if_neg c1, if_neg c2, if_neg c3, if_neg c4, if_pos c5], by rw [f_X10_cell, if_neg c1, if_neg c2, if_neg c3, if_neg c4, if_pos c5]⟩
        · refine r_iload_n dX10_cell_62 rfl ?_
          refine r_i2b dX10_cell_63 ?_
          refine r_goto (tgt := 83) dX10_cell_64 (by decide) ?_
          refine m_iast (k := 59) (N := 160) hE (by decide) rfl rfl dX10_cell_83 (by exact cell_in h0 (isSheet_in (by with_reducible assumption)) (by with_reducible assumption) (by with_reducible assumption)) ?_
          refine r_iconst (v := (1 : Int32)) dX10_cell_84 (by decide) ?_
          refine r_iret dX10_cell_85 rfl rfl ?_
          exact ⟨_, rfl, by rw [f_X10_cell, if_neg c1, if_neg c2, if_neg c3, if_pos c4], by rw [f_X10_cell, if_neg c1, if_neg c2, if_neg c3, if_pos c4]⟩
      · refine r_bipush (v := (-12 : Int32)) dX10_cell_40 (by decide) ?_
        refine r_iret dX10_cell_42 rfl rfl ?_
        exact ⟨_, rfl, by rw [f_X10_cell, if_neg c1, if_neg c2, if_pos c3], by rw [f_X10_cell, if_neg c1, if_neg c2, if_pos c3]⟩
    · refine r_bipush (v := (-11 : Int32)) dX10_cell_19 (by decide) ?_
      refine r_iret dX10_cell_21 rfl rfl ?_
      exact ⟨_, rfl, by rw [f_X10_cell, if_neg c1, if_pos c2], by rw [f_X10_cell, if_neg c1, if_pos c2]⟩
  · refine r_bipush (v := (-2 : Int32)) dX10_cell_7 (by decide) ?_
    refine r_iret dX10_cell_9 rfl rfl ?_
    exact ⟨_, rfl, by rw [f_X10_cell, if_pos c1], by rw [f_X10_cell, if_pos c1]⟩
