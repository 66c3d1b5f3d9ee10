theorem XInv.bk {S : XSh} {σ : XSt} (h : XInv S σ) (c : ¬ σ.1 2 0 4 = -1) {x : Int32} : XInv S (xp (xp (f_X0_become S σ 0 1) 9 0 6 x) 3 0 5 ((xp (f_X0_become S σ 0 1) 9 0 6 x).1 2 0 4)) := by
  obtain ⟨k, hk, e⟩ := Or.resolve_left h.ks c
  obtain ⟨n, hn, en⟩ := id h.ns
  have hk' : k ≤ n := by rw [en, nI_clamp (by omega)] at hk; exact hk
  have e1 : (xp (xp (f_X0_become S σ 0 1) 9 0 6 x) 3 0 5 ((xp (f_X0_become S σ 0 1) 9 0 6 x).1 2 0 4)).1 3 0 5 = nI k := e
  refine ⟨h.1, h.2.1, ?_, ?_, h.2.2.2.2.1, h.2.2.2.2.2.1, h.2.2.2.2.2.2.1, h.2.2.2.2.2.2.2.1, ?_⟩
  · rw [e1]; exact ⟨k, by omega, rfl⟩
  · intro i hi
    rw [e1, nI_clamp (by omega)] at hi
    exact h.sb (by rw [en, nI_clamp (by omega)]; omega)
  · rw [e1, nI_clamp (by omega)]
    exact Or.inr ⟨k, Nat.le_refl _, e⟩

def f_X9_opened_L44 : Nat → XSh → XSt → Int32 → Int32 → Int32 → Int32 → Int32 → Int32 → Int32 → Int32 → Int32 → Int32 × XSt
  | 0, _, σ, _, _, _, _, _, _, _, _, _ => (0, σ)
  | n + 1, S, σ, l1, l2, l3, l4, l5, l6, l7, l8, l9 => (if ((1 : Int32) <<< (l3 &&& 31)) ≤ l9 then (if l2 = 0 then (l4, σ) else (if l2 = (1 : Int32) then (l5, σ) else (l6, σ))) else (if l1 < (l8 + ((σ.2 18 0 (Int32.toNatClampNeg (f_X9_lowestBit l9))) - (f_X9_sumBelow_18 S σ (f_X9_lowestBit l9)))) then (f_X9_opened_L44 n S σ l1 l2 l3 l4 l5 l6 (l7 + ((σ.2 17 0 (Int32.toNatClampNeg (f_X9_lowestBit l9))) - (f_X9_sumBelow_17 S σ (f_X9_lowestBit l9)))) (l8 + ((σ.2 18 0 (Int32.toNatClampNeg (f_X9_lowestBit l9))) - (f_X9_sumBelow_18 S σ (f_X9_lowestBit l9)))) (l9 + (1 : Int32))) else (if l5 < (l7 + ((σ.2 17 0 (Int32.toNatClampNeg (f_X9_lowestBit l9))) - (f_X9_sumBelow_17 S σ (f_X9_lowestBit l9)))) then (f_X9_opened_L44 n S σ l1 l2 l3 l9 (l7 + ((σ.2 17 0 (Int32.toNatClampNeg (f_X9_lowestBit l9))) - (f_X9_sumBelow_17 S σ (f_X9_lowestBit l9)))) (l8 + ((σ.2 18 0 (Int32.toNatClampNeg (f_X9_lowestBit l9))) - (f_X9_sumBelow_18 S σ (f_X9_lowestBit l9)))) (l7 + ((σ.2 17 0 (Int32.toNatClampNeg (f_X9_lowestBit l9))) - (f_X9_sumBelow_17 S σ (f_X9_lowestBit l9)))) (l8 + ((σ.2 18 0 (Int32.toNatClampNeg (f_X9_lowestBit l9))) - (f_X9_sumBelow_18 S σ (f_X9_lowestBit l9)))) (l9 + (1 : Int32))) else (if (l7 + ((σ.2 17 0 (Int32.toNatClampNeg (f_X9_lowestBit l9))) - (f_X9_sumBelow_17 S σ (f_X9_lowestBit l9)))) = l5 then (if l6 ≤ (l8 + ((σ.2 18 0 (Int32.toNatClampNeg (f_X9_lowestBit l9))) - (f_X9_sumBelow_18 S σ (f_X9_lowestBit l9)))) then (f_X9_opened_L44 n S σ l1 l2 l3 l4 l5 l6 (l7 + ((σ.2 17 0 (Int32.toNatClampNeg (f_X9_lowestBit l9))) - (f_X9_sumBelow_17 S σ (f_X9_lowestBit l9)))) (l8 + ((σ.2 18 0 (Int32.toNatClampNeg (f_X9_lowestBit l9))) - (f_X9_sumBelow_18 S σ (f_X9_lowestBit l9)))) (l9 + (1 : Int32))) else (f_X9_opened_L44 n S σ l1 l2 l3 l9 (l7 + ((σ.2 17 0 (Int32.toNatClampNeg (f_X9_lowestBit l9))) - (f_X9_sumBelow_17 S σ (f_X9_lowestBit l9)))) (l8 + ((σ.2 18 0 (Int32.toNatClampNeg (f_X9_lowestBit l9))) - (f_X9_sumBelow_18 S σ (f_X9_lowestBit l9)))) (l7 + ((σ.2 17 0 (Int32.toNatClampNeg (f_X9_lowestBit l9))) - (f_X9_sumBelow_17 S σ (f_X9_lowestBit l9)))) (l8 + ((σ.2 18 0 (Int32.toNatClampNeg (f_X9_lowestBit l9))) - (f_X9_sumBelow_18 S σ (f_X9_lowestBit l9)))) (l9 + (1 : Int32)))) else (f_X9_opened_L44 n S σ l1 l2 l3 l4 l5 l6 (l7 + ((σ.2 17 0 (Int32.toNatClampNeg (f_X9_lowestBit l9))) - (f_X9_sumBelow_17 S σ (f_X9_lowestBit l9)))) (l8 + ((σ.2 18 0 (Int32.toNatClampNeg (f_X9_lowestBit l9))) - (f_X9_sumBelow_18 S σ (f_X9_lowestBit l9)))) (l9 + (1 : Int32)))))))
set_option maxRecDepth 100000 in
set_option maxHeartbeats 1000000 in
theorem lp_X9_opened_44 {g : GC} {B : hH} {am : XAd} {S : XSh} {d : Nat} {K : Option Value → XSt → Prop} (hE : XOk am S) (hX : GX g) (hd : 6 ≤ d) : ∀ (fuel : Nat) (σ : XSt) (l1 : Int32) (l2 : Int32) (l3 : Int32) (l4 : Int32) (l5 : Int32) (l6 : Int32) (l7 : Int32) (l8 : Int32) (l9 : Int32), True → LB l3 → Ct l9 1024 → 1025 - l9.toNatClampNeg < fuel → K (some (.int (f_X9_opened_L44 fuel S σ l1 l2 l3 l4 l5 l6 l7 l8 l9).1)) (f_X9_opened_L44 fuel S σ l1 l2 l3 l4 l5 l6 l7 l8 l9).2 → XW g B am S RX9 cX9_opened 11 (some FieldType.int) "opened" d K 44 [(0, .ref (am 9 0)), (1, .int l1), (2, .int l2), (3, .int l3), (4, .int l4), (5, .int l5), (6, .int l6), (7, .int l7), (8, .int l8), (9, .int l9)] [] σ := by
  intro fuel
  induction fuel with
  | zero => intro σ l1 l2 l3 l4 l5 l6 l7 l8 l9 i0 i1 i2 hm hK; exact absurd hm (Nat.not_lt_zero _)
  | succ n ih =>
    intro σ l1 l2 l3 l4 l5 l6 l7 l8 l9 i0 i1 i2 hm hK
    refine r_iload dX9_opened_44 rfl ?_
    refine r_iconst (v := (1 : Int32)) dX9_opened_46 (by decide) ?_
    refine r_iload_n dX9_opened_47 rfl ?_
    refine r_ishl dX9_opened_48 ?_
    refine r_icmp_ge (tgt := 148) dX9_opened_49 (by decide) (fun c3 => ?_) (fun c3 => ?_)
    · refine r_iload_n dX9_opened_148 rfl ?_
      refine r_if_ne (tgt := 157) dX9_opened_149 (by decide) (fun c4 => ?_) (fun c4 => ?_)
      · refine r_iload_n dX9_opened_157 rfl ?_
        refine r_iconst (v := (1 : Int32)) dX9_opened_158 (by decide) ?_
        refine r_icmp_ne (tgt := 167) dX9_opened_159 (by decide) (fun c5 => ?_) (fun c5 => ?_)
        · refine r_iload dX9_opened_167 rfl ?_
          refine r_iret dX9_opened_169 rfl rfl ?_
          exact ⟨_, rfl, by rw [f_X9_opened_L44, if_pos c3, if_neg c4, if_neg c5] at hK; exact hK⟩
        · refine r_iload dX9_opened_162 rfl ?_
          refine r_goto (tgt := 169) dX9_opened_164 (by decide) ?_
          refine r_iret dX9_opened_169 rfl rfl ?_
          exact ⟨_, rfl, by rw [f_X9_opened_L44, if_pos c3, if_neg c4, if_pos c5] at hK; exact hK⟩
      · refine r_iload dX9_opened_152 rfl ?_
        refine r_goto (tgt := 169) dX9_opened_154 (by decide) ?_
        refine r_iret dX9_opened_169 rfl rfl ?_
        exact ⟨_, rfl, by rw [f_X9_opened_L44, if_pos c3, if_pos c4] at hK; exact hK⟩
    · refine r_iload dX9_opened_52 rfl ?_
      refine r_callS0 dX9_opened_54 mf_X9_lowestBit ml_RX9_273 (ok_X9_lowestBit (d := d - 1) (by omega) _) rfl rfl (Nat.le_of_ble_eq_true rfl) (by omega) ?_
      refine r_istore dX9_opened_57 (by decide) ?_
      refine r_iload dX9_opened_59 rfl ?_
      refine r_aload_n dX9_opened_61 rfl ?_
      refine x_get (c := 9) hE (fun _ _ => rfl) dX9_opened_62 fl_RX9_74 (Nat.le_of_ble_eq_true rfl) rfl ?_
      refine r_iload dX9_opened_65 rfl ?_
      refine x_ialdV (c := 17) (i := 0) (N := 10) (x := (σ.2 17 0 (Int32.toNatClampNeg (f_X9_lowestBit l9)))) hE (fun _ _ => rfl) dX9_opened_67 (Nat.le_of_ble_eq_true rfl) (by exact lb_in _) rfl ?_
      refine r_aload_n dX9_opened_68 rfl ?_
      refine x_get (c := 9) hE (fun _ _ => rfl) dX9_opened_69 fl_RX9_74 (Nat.le_of_ble_eq_true rfl) rfl ?_
      refine r_iload dX9_opened_72 rfl ?_
      refine x_callS dX9_opened_74 mf_X9_sumBelow ml_RX9_276 (ok_X9_sumBelow_17 (d := d - 1) hE hX (by omega) _ _) rfl rfl (Nat.le_of_ble_eq_true rfl) (by omega) ?_
      refine r_isub dX9_opened_77 ?_
      refine r_iadd dX9_opened_78 ?_
      refine r_istore dX9_opened_79 (by decide) ?_
      refine r_iload dX9_opened_81 rfl ?_
      refine r_aload_n dX9_opened_83 rfl ?_
      refine x_get (c := 9) hE (fun _ _ => rfl) dX9_opened_84 fl_RX9_77 (Nat.le_of_ble_eq_true rfl) rfl ?_
      refine r_iload dX9_opened_87 rfl ?_
      refine x_ialdV (c := 18) (i := 0) (N := 10) (x := (σ.2 18 0 (Int32.toNatClampNeg (f_X9_lowestBit l9)))) hE (fun _ _ => rfl) dX9_opened_89 (Nat.le_of_ble_eq_true rfl) (by exact lb_in _) rfl ?_
      refine r_aload_n dX9_opened_90 rfl ?_
      refine x_get (c := 9) hE (fun _ _ => rfl) dX9_opened_91 fl_RX9_77 (Nat.le_of_ble_eq_true rfl) rfl ?_
      refine r_iload dX9_opened_94 rfl ?_
      refine x_callS dX9_opened_96 mf_X9_sumBelow ml_RX9_276 (ok_X9_sumBelow_18 (d := d - 1) hE hX (by omega) _ _) rfl rfl (Nat.le_of_ble_eq_true rfl) (by omega) ?_
      refine r_isub dX9_opened_99 ?_
      refine r_iadd dX9_opened_100 ?_
      refine r_istore dX9_opened_101 (by decide) ?_
      refine r_iload dX9_opened_103 rfl ?_
      refine r_iload_n dX9_opened_105 rfl ?_
      refine r_icmp_gt (tgt := 142) dX9_opened_106 (by decide) (fun c6 => ?_) (fun c6 => ?_)
      · refine r_iinc2 (w := (1 : Int32)) dX9_opened_142 rfl (by decide) (by decide) ?_
        refine r_goto (tgt := 44) dX9_opened_145 (by decide) ?_
        refine r_loc (L' := [(0, .ref (am 9 0)), (1, .int l1), (2, .int l2), (3, .int l3), (4, .int l4), (5, .int l5), (6, .int l6), (7, .int (l7 + ((σ.2 17 0 (Int32.toNatClampNeg (f_X9_lowestBit l9))) - (f_X9_sumBelow_17 S σ (f_X9_lowestBit l9))))), (8, .int (l8 + ((σ.2 18 0 (Int32.toNatClampNeg (f_X9_lowestBit l9))) - (f_X9_sumBelow_18 S σ (f_X9_lowestBit l9))))), (9, .int (l9 + (1 : Int32)))]) [4, 5, 6, 7, 8, 9, 10, 2, 1, 0] rfl ?_
        exact ih σ  l1 l2 l3 l4 l5 l6 (l7 + ((σ.2 17 0 (Int32.toNatClampNeg (f_X9_lowestBit l9))) - (f_X9_sumBelow_17 S σ (f_X9_lowestBit l9)))) (l8 + ((σ.2 18 0 (Int32.toNatClampNeg (f_X9_lowestBit l9))) - (f_X9_sumBelow_18 S σ (f_X9_lowestBit l9)))) (l9 + (1 : Int32)) (by trivial) (by exact i1) (by exact (Ct.up (by decide) i1.ct i2 (by with_reducible assumption)).2.1) (by have u := (Ct.up (by decide) i1.ct i2 (by with_reducible assumption)).2.2; omega) (by rw [f_X9_opened_L44, if_neg c3, if_pos c6] at hK; exact hK)
      · refine r_iload dX9_opened_109 rfl ?_
        refine r_iload dX9_opened_111 rfl ?_
        refine r_icmp_gt (tgt := 130) dX9_opened_113 (by decide) (fun c7 => ?_) (fun c7 => ?_)
        · refine r_iload dX9_opened_130 rfl ?_
          refine r_istore dX9_opened_132 (by decide) ?_
          refine r_iload dX9_opened_134 rfl ?_
          refine r_istore dX9_opened_136 (by decide) ?_
          refine r_iload dX9_opened_138 rfl ?_
          refine r_istore dX9_opened_140 (by decide) ?_
          refine r_iinc2 (w := (1 : Int32)) dX9_opened_142 rfl (by decide) (by decide) ?_
          refine r_goto (tgt := 44) dX9_opened_145 (by decide) ?_
          refine r_loc (L' := [(0, .ref (am 9 0)), (1, .int l1), (2, .int l2), (3, .int l3), (4, .int l9), (5, .int (l7 + ((σ.2 17 0 (Int32.toNatClampNeg (f_X9_lowestBit l9))) - (f_X9_sumBelow_17 S σ (f_X9_lowestBit l9))))), (6, .int (l8 + ((σ.2 18 0 (Int32.toNatClampNeg (f_X9_lowestBit l9))) - (f_X9_sumBelow_18 S σ (f_X9_lowestBit l9))))), (7, .int (l7 + ((σ.2 17 0 (Int32.toNatClampNeg (f_X9_lowestBit l9))) - (f_X9_sumBelow_17 S σ (f_X9_lowestBit l9))))), (8, .int (l8 + ((σ.2 18 0 (Int32.toNatClampNeg (f_X9_lowestBit l9))) - (f_X9_sumBelow_18 S σ (f_X9_lowestBit l9))))), (9, .int (l9 + (1 : Int32)))]) [7, 8, 9, 10, 3, 2, 1, 5, 4, 0] rfl ?_
          exact ih σ  l1 l2 l3 l9 (l7 + ((σ.2 17 0 (Int32.toNatClampNeg (f_X9_lowestBit l9))) - (f_X9_sumBelow_17 S σ (f_X9_lowestBit l9)))) (l8 + ((σ.2 18 0 (Int32.toNatClampNeg (f_X9_lowestBit l9))) - (f_X9_sumBelow_18 S σ (f_X9_lowestBit l9)))) (l7 + ((σ.2 17 0 (Int32.toNatClampNeg (f_X9_lowestBit l9))) - (f_X9_sumBelow_17 S σ (f_X9_lowestBit l9)))) (l8 + ((σ.2 18 0 (Int32.toNatClampNeg (f_X9_lowestBit l9))) - (f_X9_sumBelow_18 S σ (f_X9_lowestBit l9)))) (l9 + (1 : Int32)) (by trivial) (by exact i1) (by exact (Ct.up (by decide) i1.ct i2 (by with_reducible assumption)).2.1) (by have u := (Ct.up (by decide) i1.ct i2 (by with_reducible assumption)).2.2; omega) (by rw [f_X9_opened_L44, if_neg c3, if_neg c6, if_pos c7] at hK; exact hK)
        · refine r_iload dX9_opened_116 rfl ?_
          refine r_iload dX9_opened_118 rfl ?_
          refine r_icmp_ne (tgt := 142) dX9_opened_120 (by decide) (fun c8 => ?_) (fun c8 => ?_)
          · refine r_iinc2 (w := (1 : Int32)) dX9_opened_142 rfl (by decide) (by decide) ?_
            refine r_goto (tgt := 44) dX9_opened_145 (by decide) ?_
            refine r_loc (L' := [(0, .ref (am 9 0)), (1, .int l1), (2, .int l2), (3, .int l3), (4, .int l4), (5, .int l5), (6, .int l6), (7, .int (l7 + ((σ.2 17 0 (Int32.toNatClampNeg (f_X9_lowestBit l9))) - (f_X9_sumBelow_17 S σ (f_X9_lowestBit l9))))), (8, .int (l8 + ((σ.2 18 0 (Int32.toNatClampNeg (f_X9_lowestBit l9))) - (f_X9_sumBelow_18 S σ (f_X9_lowestBit l9))))), (9, .int (l9 + (1 : Int32)))]) [4, 5, 6, 7, 8, 9, 10, 2, 1, 0] rfl ?_
            exact ih σ  l1 l2 l3 l4 l5 l6 (l7 + ((σ.2 17 0 (Int32.toNatClampNeg (f_X9_lowestBit l9))) - (f_X9_sumBelow_17 S σ (f_X9_lowestBit l9)))) (l8 + ((σ.2 18 0 (Int32.toNatClampNeg (f_X9_lowestBit l9))) - (f_X9_sumBelow_18 S σ (f_X9_lowestBit l9)))) (l9 + (1 : Int32)) (by trivial) (by exact i1) (by exact (Ct.up (by decide) i1.ct i2 (by with_reducible assumption)).2.1) (by have u := (Ct.up (by decide) i1.ct i2 (by with_reducible assumption)).2.2; omega) (by rw [f_X9_opened_L44, if_neg c3, if_neg c6, if_neg c7, if_neg c8] at hK; exact hK)
          · refine r_iload dX9_opened_123 rfl ?_
            refine r_iload dX9_opened_125 rfl ?_
            refine r_icmp_ge (tgt := 142) dX9_opened_127 (by decide) (fun c9 => ?_) (fun c9 => ?_)
            · refine r_iinc2 (w := (1 : Int32)) dX9_opened_142 rfl (by decide) (by decide) ?_
              refine r_goto (tgt := 44) dX9_opened_145 (by decide) ?_
              refine r_loc (L' := [(0, .ref (am 9 0)), (1, .int l1), (2, .int l2), (3, .int l3), (4, .int l4), (5, .int l5), (6, .int l6), (7, .int (l7 + ((σ.2 17 0 (Int32.toNatClampNeg (f_X9_lowestBit l9))) - (f_X9_sumBelow_17 S σ (f_X9_lowestBit l9))))), (8, .int (l8 + ((σ.2 18 0 (Int32.toNatClampNeg (f_X9_lowestBit l9))) - (f_X9_sumBelow_18 S σ (f_X9_lowestBit l9))))), (9, .int (l9 + (1 : Int32)))]) [4, 5, 6, 7, 8, 9, 10, 2, 1, 0] rfl ?_
              exact ih σ  l1 l2 l3 l4 l5 l6 (l7 + ((σ.2 17 0 (Int32.toNatClampNeg (f_X9_lowestBit l9))) - (f_X9_sumBelow_17 S σ (f_X9_lowestBit l9)))) (l8 + ((σ.2 18 0 (Int32.toNatClampNeg (f_X9_lowestBit l9))) - (f_X9_sumBelow_18 S σ (f_X9_lowestBit l9)))) (l9 + (1 : Int32)) (by trivial) (by exact i1) (by exact (Ct.up (by decide) i1.ct i2 (by with_reducible assumption)).2.1) (by have u := (Ct.up (by decide) i1.ct i2 (by with_reducible assumption)).2.2; omega) (by rw [f_X9_opened_L44, if_neg c3, if_neg c6, if_neg c7, if_pos c8, if_pos c9] at hK; exact hK)
            · refine r_iload dX9_opened_130 rfl ?_
              refine r_istore dX9_opened_132 (by decide) ?_
              refine r_iload dX9_opened_134 rfl ?_
              refine r_istore dX9_opened_136 (by decide) ?_
              refine r_iload dX9_opened_138 rfl ?_
              refine r_istore dX9_opened_140 (by decide) ?_
              refine r_iinc2 (w := (1 : Int32)) dX9_opened_142 rfl (by decide) (by decide) ?_
              refine r_goto (tgt := 44) dX9_opened_145 (by decide) ?_
              refine r_loc (L' := [(0, .ref (am 9 0)), (1, .int l1), (2, .int l2), (3, .int l3), (4, .int l9), (5, .int (l7 + ((σ.2 17 0 (Int32.toNatClampNeg (f_X9_lowestBit l9))) - (f_X9_sumBelow_17 S σ (f_X9_lowestBit l9))))), (6, .int (l8 + ((σ.2 18 0 (Int32.toNatClampNeg (f_X9_lowestBit l9))) - (f_X9_sumBelow_18 S σ (f_X9_lowestBit l9))))), (7, .int (l7 + ((σ.2 17 0 (Int32.toNatClampNeg (f_X9_lowestBit l9))) - (f_X9_sumBelow_17 S σ (f_X9_lowestBit l9))))), (8, .int (l8 + ((σ.2 18 0 (Int32.toNatClampNeg (f_X9_lowestBit l9))) - (f_X9_sumBelow_18 S σ (f_X9_lowestBit l9))))), (9, .int (l9 + (1 : Int32)))]) [7, 8, 9, 10, 3, 2, 1, 5, 4, 0] rfl ?_
              exact ih σ  l1 l2 l3 l9 (l7 + ((σ.2 17 0 (Int32.toNatClampNeg (f_X9_lowestBit l9))) - (f_X9_sumBelow_17 S σ (f_X9_lowestBit l9)))) (l8 + ((σ.2 18 0 (Int32.toNatClampNeg (f_X9_lowestBit l9))) - (f_X9_sumBelow_18 S σ (f_X9_lowestBit l9)))) (l7 + ((σ.2 17 0 (Int32.toNatClampNeg (f_X9_lowestBit l9))) - (f_X9_sumBelow_17 S σ (f_X9_lowestBit l9)))) (l8 + ((σ.2 18 0 (Int32.toNatClampNeg (f_X9_lowestBit l9))) - (f_X9_sumBelow_18 S σ (f_X9_lowestBit l9)))) (l9 + (1 : Int32)) (by trivial) (by exact i1) (by exact (Ct.up (by decide) i1.ct i2 (by with_reducible assumption)).2.1) (by have u := (Ct.up (by decide) i1.ct i2 (by with_reducible assumption)).2.2; omega) (by rw [f_X9_opened_L44, if_neg c3, if_neg c6, if_neg c7, if_pos c8, if_neg c9] at hK; exact hK)
def f_X9_opened (S : XSh) (σ : XSt) (p1 : Int32) (p2 : Int32) : Int32 × XSt := (if (f_X9_isUpTo p1 (999 : Int32)) = 0 then ((-2 : Int32), σ) else (if (f_X9_isBelow p2 (3 : Int32)) = 0 then ((-2 : Int32), σ) else (f_X9_opened_L44 (1026) S (f_X9_weighDoubts S σ).2 p1 p2 (f_X9_weighDoubts S σ).1 (0 : Int32) (0 : Int32) (0 : Int32) (0 : Int32) (0 : Int32) (1 : Int32))))
set_option maxRecDepth 100000 in
set_option maxHeartbeats 1000000 in
theorem ok_X9_opened {g : GC} {B : hH} {am : XAd} {S : XSh} {d : Nat} (hE : XOk am S) (hX : GX g) (hd : 6 ≤ d) (σ : XSt) (p1 : Int32) (p2 : Int32) (h0 : XInv S σ) : XC g B am S d yX9_opened cX9_opened 11 (some FieldType.int) [.ref (am 9 0), .int p1, .int p2] (fun v σ' => v = some (.int (f_X9_opened S σ p1 p2).1) ∧ σ' = (f_X9_opened S σ p1 p2).2) σ := by
  refine AM.of2 (own := RX9) (nm := "opened") (L0 := [(0, .ref (am 9 0)), (1, .int p1), (2, .int p2)]) (by decide) rfl rfl (Nat.le_of_ble_eq_true rfl) rfl ?_
  refine r_iload_n dX9_opened_0 rfl ?_
  refine r_sipush (v := (999 : Int32)) dX9_opened_1 (by decide) ?_
  refine r_callS0 dX9_opened_4 mf_X9_isUpTo ml_RX9_106 (ok_X9_isUpTo (d := d - 1) (by omega) _ _) rfl rfl (Nat.le_of_ble_eq_true rfl) (by omega) ?_
  refine r_if_eq (tgt := 18) dX9_opened_7 (by decide) (fun c1 => ?_) (fun c1 => ?_)
  · refine r_bipush (v := (-2 : Int32)) dX9_opened_18 (by decide) ?_
    refine r_iret dX9_opened_20 rfl rfl ?_
    exact ⟨_, rfl, by rw [f_X9_opened, if_pos c1], by rw [f_X9_opened, if_pos c1]⟩
  · refine r_iload_n dX9_opened_10 rfl ?_
    refine r_iconst (v := (3 : Int32)) dX9_opened_11 (by decide) ?_
    refine r_callS0 dX9_opened_12 mf_X9_isBelow ml_RX9_136 (ok_X9_isBelow (d := d - 1) (by omega) _ _) rfl rfl (Nat.le_of_ble_eq_true rfl) (by omega) ?_
    refine r_if_ne (tgt := 21) dX9_opened_15 (by decide) (fun c2 => ?_) (fun c2 => ?_)
    · refine r_aload_n dX9_opened_21 rfl ?_
      refine x_callW (c := 9) (i := 0) hE (fun _ _ => rfl) (Nat.le_of_ble_eq_true rfl) dX9_opened_22 mf_X9_weighDoubts ml_RX9_270 (ok_X9_weighDoubts (d := d - 1) hE hX (by omega) _ (by with_reducible assumption)) rfl rfl rfl rfl (Nat.le_of_ble_eq_true rfl) (by omega) ?_
      refine r_istore_n dX9_opened_25 (by decide) ?_
      refine r_iconst (v := (0 : Int32)) dX9_opened_26 (by decide) ?_
      refine r_istore dX9_opened_27 (by decide) ?_
      refine r_iconst (v := (0 : Int32)) dX9_opened_29 (by decide) ?_
      refine r_istore dX9_opened_30 (by decide) ?_
      refine r_iconst (v := (0 : Int32)) dX9_opened_32 (by decide) ?_
      refine r_istore dX9_opened_33 (by decide) ?_
      refine r_iconst (v := (0 : Int32)) dX9_opened_35 (by decide) ?_
      refine r_istore dX9_opened_36 (by decide) ?_
      refine r_iconst (v := (0 : Int32)) dX9_opened_38 (by decide) ?_
      refine r_istore dX9_opened_39 (by decide) ?_
      refine r_iconst (v := (1 : Int32)) dX9_opened_41 (by decide) ?_
      refine r_istore dX9_opened_42 (by decide) ?_
      refine r_loc (L' := [(0, .ref (am 9 0)), (1, .int p1), (2, .int p2), (3, .int (f_X9_weighDoubts S σ).1), (4, .int (0 : Int32)), (5, .int (0 : Int32)), (6, .int (0 : Int32)), (7, .int (0 : Int32)), (8, .int (0 : Int32)), (9, .int (1 : Int32))]) [7, 8, 9, 6, 5, 4, 3, 2, 1, 0] rfl ?_
      exact lp_X9_opened_44 hE hX (by omega) (1026) (f_X9_weighDoubts S σ).2 p1 p2 (f_X9_weighDoubts S σ).1 (0 : Int32) (0 : Int32) (0 : Int32) (0 : Int32) (0 : Int32) (1 : Int32) (by trivial) (by exact wd_lb h0) (by exact ⟨1, by decide, rfl⟩) (by omega) ⟨by rw [f_X9_opened, if_neg c1, if_neg c2], by rw [f_X9_opened, if_neg c1, if_neg c2]⟩
    · refine r_bipush (v := (-2 : Int32)) dX9_opened_18 (by decide) ?_
      refine r_iret dX9_opened_20 rfl rfl ?_
      exact ⟨_, rfl, by rw [f_X9_opened, if_neg c1, if_pos c2], by rw [f_X9_opened, if_neg c1, if_pos c2]⟩

def f_X9_owed_L18 : Nat → XSh → XSt → Int32 → Int64 → Int32 → Int64
  | 0, _, _, _, _, _ => 0
  | n + 1, S, σ, l1, l2, l4 => (if (σ.1 3 0 5) ≤ l4 then l2 else (if (σ.2 24 0 (Int32.toNatClampNeg l4)) = l1 then (if (σ.2 25 0 (Int32.toNatClampNeg l4)) = l1 then (if (f_X9_isBarred S σ (Int32.toNatClampNeg (σ.2 23 0 (Int32.toNatClampNeg l4)))) = 0 then (f_X9_owed_L18 n S σ l1 l2 (l4 + (1 : Int32))) else (f_X9_owed_L18 n S σ l1 (l2 + (Int32.toInt64 (σ.2 26 0 (Int32.toNatClampNeg l4)))) (l4 + (1 : Int32)))) else (if (f_X9_isBarred S σ (Int32.toNatClampNeg (σ.2 23 0 (Int32.toNatClampNeg l4)))) = 0 then (f_X9_owed_L18 n S σ l1 l2 (l4 + (1 : Int32))) else (f_X9_owed_L18 n S σ l1 (l2 + (Int32.toInt64 (-(σ.2 26 0 (Int32.toNatClampNeg l4))))) (l4 + (1 : Int32))))) else (if (σ.2 25 0 (Int32.toNatClampNeg l4)) = l1 then (if (f_X9_isBarred S σ (Int32.toNatClampNeg (σ.2 23 0 (Int32.toNatClampNeg l4)))) = 0 then (f_X9_owed_L18 n S σ l1 l2 (l4 + (1 : Int32))) else (f_X9_owed_L18 n S σ l1 (l2 + (Int32.toInt64 (σ.2 26 0 (Int32.toNatClampNeg l4)))) (l4 + (1 : Int32)))) else (f_X9_owed_L18 n S σ l1 l2 (l4 + (1 : Int32))))))
set_option maxRecDepth 100000 in
set_option maxHeartbeats 1000000 in
theorem lp_X9_owed_18 {g : GC} {B : hH} {am : XAd} {S : XSh} {d : Nat} {K : Option Value → XSt → Prop} (hE : XOk am S) (hX : GX g) (hd : 4 ≤ d) : ∀ (fuel : Nat) (σ : XSt) (l1 : Int32) (l2 : Int64) (l4 : Int32), XInv S σ → Ct l4 40 → 41 - l4.toNatClampNeg < fuel → K (some (.long (f_X9_owed_L18 fuel S σ l1 l2 l4))) σ → XW g B am S RX9 cX9_owed 7 (some FieldType.long) "owed" d K 18 [(0, .ref (am 9 0)), (1, .int l1), (2, .long l2), (4, .int l4)] [] σ := by
  intro fuel
  induction fuel with
  | zero => intro σ l1 l2 l4 i0 i1 hm hK; exact absurd hm (Nat.not_lt_zero _)
  | succ n ih =>
    intro σ l1 l2 l4 i0 i1 hm hK
    refine r_iload dX9_owed_18 rfl ?_
    refine r_aload_n dX9_owed_20 rfl ?_
    refine x_get (c := 9) hE (fun _ _ => rfl) dX9_owed_21 fl_RX9_37 (Nat.le_of_ble_eq_true rfl) rfl ?_
    refine x_getI (c := 3) (x := (σ.1 3 0 5)) hE (fun _ _ => rfl) (fun _ => rfl) dX9_owed_24 fl_RX9_199 (Nat.le_of_ble_eq_true rfl) rfl ?_
    refine r_icmp_ge (tgt := 143) dX9_owed_27 (by decide) (fun c2 => ?_) (fun c2 => ?_)
    · refine r_lload_n dX9_owed_143 rfl ?_
      refine r_lret dX9_owed_144 rfl ?_
      exact ⟨_, rfl, by rw [f_X9_owed_L18, if_pos c2] at hK; exact hK⟩
    · refine r_aload_n dX9_owed_30 rfl ?_
      refine x_get (c := 9) hE (fun _ _ => rfl) dX9_owed_31 fl_RX9_37 (Nat.le_of_ble_eq_true rfl) rfl ?_
      refine x_get (c := 3) hE (fun _ _ => rfl) dX9_owed_34 fl_RX9_280 (Nat.le_of_ble_eq_true rfl) rfl ?_
      refine r_iload dX9_owed_37 rfl ?_
      refine x_ialdV (c := 24) (i := 0) (N := 40) (x := (σ.2 24 0 (Int32.toNatClampNeg l4))) hE (fun _ _ => rfl) dX9_owed_39 (Nat.le_of_ble_eq_true rfl) (by first | with_reducible assumption | exact (Ct.up (by decide) i0.ns i1 (by with_reducible assumption)).1) rfl ?_
      refine r_iload_n dX9_owed_40 rfl ?_
      refine r_icmp_ne (tgt := 48) dX9_owed_41 (by decide) (fun c3 => ?_) (fun c3 => ?_)
      · refine r_iconst (v := (0 : Int32)) dX9_owed_48 (by decide) ?_
        refine r_istore dX9_owed_49 (by decide) ?_
        refine r_aload_n dX9_owed_51 rfl ?_
        refine x_get (c := 9) hE (fun _ _ => rfl) dX9_owed_52 fl_RX9_37 (Nat.le_of_ble_eq_true rfl) rfl ?_
        refine x_get (c := 3) hE (fun _ _ => rfl) dX9_owed_55 fl_RX9_283 (Nat.le_of_ble_eq_true rfl) rfl ?_
        refine r_iload dX9_owed_58 rfl ?_
        refine x_ialdV (c := 25) (i := 0) (N := 40) (x := (σ.2 25 0 (Int32.toNatClampNeg l4))) hE (fun _ _ => rfl) dX9_owed_60 (Nat.le_of_ble_eq_true rfl) (by first | with_reducible assumption | exact (Ct.up (by decide) i0.ns i1 (by with_reducible assumption)).1) rfl ?_
        refine r_iload_n dX9_owed_61 rfl ?_
        refine r_icmp_ne (tgt := 69) dX9_owed_62 (by decide) (fun c4 => ?_) (fun c4 => ?_)
        · refine r_iconst (v := (0 : Int32)) dX9_owed_69 (by decide) ?_
          refine r_istore dX9_owed_70 (by decide) ?_
          refine r_iload dX9_owed_72 rfl ?_
          refine r_if_ne (tgt := 82) dX9_owed_74 (by decide) (fun c5 => absurd c5 (by decide)) (fun c5 => ?_)
          refine r_iload dX9_owed_77 rfl ?_
          refine r_if_eq (tgt := 137) dX9_owed_79 (by decide) (fun c6 => ?_) (fun c6 => absurd c6 (by decide))
          refine r_iinc2 (w := (1 : Int32)) dX9_owed_137 rfl (by decide) (by decide) ?_
          refine r_goto (tgt := 18) dX9_owed_140 (by decide) ?_
          refine r_loc (L' := [(0, .ref (am 9 0)), (1, .int l1), (2, .long l2), (4, .int (l4 + (1 : Int32)))]) [3, 4, 5, 0] rfl ?_
          exact ih σ  l1 l2 (l4 + (1 : Int32)) (by exact i0) (by exact (Ct.up (by decide) i0.ns i1 (by with_reducible assumption)).2.1) (by have u := (Ct.up (by decide) i0.ns i1 (by with_reducible assumption)).2.2; omega) (by rw [f_X9_owed_L18, if_neg c2, if_neg c3, if_neg c4] at hK; exact hK)
        · refine r_iconst (v := (1 : Int32)) dX9_owed_65 (by decide) ?_
          refine r_goto (tgt := 70) dX9_owed_66 (by decide) ?_
          refine r_istore dX9_owed_70 (by decide) ?_
          refine r_iload dX9_owed_72 rfl ?_
          refine r_if_ne (tgt := 82) dX9_owed_74 (by decide) (fun c7 => absurd c7 (by decide)) (fun c7 => ?_)
          refine r_iload dX9_owed_77 rfl ?_
          refine r_if_eq (tgt := 137) dX9_owed_79 (by decide) (fun c8 => absurd c8 (by decide)) (fun c8 => ?_)
          refine r_aload_n dX9_owed_82 rfl ?_
          refine r_aload_n dX9_owed_83 rfl ?_
          refine r_aload_n dX9_owed_84 rfl ?_
          refine x_get (c := 9) hE (fun _ _ => rfl) dX9_owed_85 fl_RX9_37 (Nat.le_of_ble_eq_true rfl) rfl ?_
          refine x_get (c := 3) hE (fun _ _ => rfl) dX9_owed_88 fl_RX9_286 (Nat.le_of_ble_eq_true rfl) rfl ?_
          refine r_iload dX9_owed_91 rfl ?_
          refine x_ialdV (c := 23) (i := 0) (N := 40) (x := (σ.2 23 0 (Int32.toNatClampNeg l4))) hE (fun _ _ => rfl) dX9_owed_93 (Nat.le_of_ble_eq_true rfl) (by first | with_reducible assumption | exact (Ct.up (by decide) i0.ns i1 (by with_reducible assumption)).1) rfl ?_
          refine x_callW (c := 9) (i := 0) hE (fun _ _ => rfl) (Nat.le_of_ble_eq_true rfl) dX9_owed_94 mf_X9_bottleAt ml_RX9_148 (ok_X9_bottleAt (d := d - 1) hE hX (by omega) _ _ (by first | with_reducible assumption | exact (Ct.up (by decide) i0.ns i1 (by with_reducible assumption)).1)) rfl rfl rfl rfl (Nat.le_of_ble_eq_true rfl) (by omega) ?_
          rw [if_neg (by exact i0.bSb i1 (by with_reducible assumption))]
          refine x_callW (c := 9) (i := 0) hE (fun _ _ => rfl) (Nat.le_of_ble_eq_true rfl) dX9_owed_97 mf_X9_isBarred ml_RX9_169 (ok_X9_isBarred (d := d - 1) hE hX (by omega) _ _ (by first | with_reducible assumption | exact i0.bSl i1 (by with_reducible assumption)) (by first | with_reducible assumption | exact (Ct.up (by decide) i0.ns i1 (by with_reducible assumption)).1)) rfl rfl rfl rfl (Nat.le_of_ble_eq_true rfl) (by omega) ?_
          refine r_if_eq (tgt := 137) dX9_owed_100 (by decide) (fun c9 => ?_) (fun c9 => ?_)
          · refine r_iinc2 (w := (1 : Int32)) dX9_owed_137 rfl (by decide) (by decide) ?_
            refine r_goto (tgt := 18) dX9_owed_140 (by decide) ?_
            refine r_loc (L' := [(0, .ref (am 9 0)), (1, .int l1), (2, .long l2), (4, .int (l4 + (1 : Int32)))]) [3, 4, 5, 0] rfl ?_
            exact ih σ  l1 l2 (l4 + (1 : Int32)) (by exact i0) (by exact (Ct.up (by decide) i0.ns i1 (by with_reducible assumption)).2.1) (by have u := (Ct.up (by decide) i0.ns i1 (by with_reducible assumption)).2.2; omega) (by rw [f_X9_owed_L18, if_neg c2, if_neg c3, if_pos c4, if_pos c9] at hK; exact hK)
          · refine r_lload_n dX9_owed_103 rfl ?_
            refine r_iload dX9_owed_104 rfl ?_
            refine r_if_eq (tgt := 123) dX9_owed_106 (by decide) (fun c10 => absurd c10 (by decide)) (fun c10 => ?_)
            refine r_aload_n dX9_owed_109 rfl ?_
            refine x_get (c := 9) hE (fun _ _ => rfl) dX9_owed_110 fl_RX9_37 (Nat.le_of_ble_eq_true rfl) rfl ?_
            refine x_get (c := 3) hE (fun _ _ => rfl) dX9_owed_113 fl_RX9_289 (Nat.le_of_ble_eq_true rfl) rfl ?_
            refine r_iload dX9_owed_116 rfl ?_
            refine x_ialdV (c := 26) (i := 0) (N := 40) (x := (σ.2 26 0 (Int32.toNatClampNeg l4))) hE (fun _ _ => rfl) dX9_owed_118 (Nat.le_of_ble_eq_true rfl) (by first | with_reducible assumption | exact (Ct.up (by decide) i0.ns i1 (by with_reducible assumption)).1) rfl ?_
            refine r_i2l dX9_owed_119 ?_
            refine r_goto (tgt := 135) dX9_owed_120 (by decide) ?_
            refine r_ladd dX9_owed_135 ?_
            refine r_lstore_n dX9_owed_136 (by decide) ?_
            refine r_iinc2 (w := (1 : Int32)) dX9_owed_137 rfl (by decide) (by decide) ?_
            refine r_goto (tgt := 18) dX9_owed_140 (by decide) ?_
            refine r_loc (L' := [(0, .ref (am 9 0)), (1, .int l1), (2, .long (l2 + (Int32.toInt64 (σ.2 26 0 (Int32.toNatClampNeg l4))))), (4, .int (l4 + (1 : Int32)))]) [4, 5, 1, 0] rfl ?_
            exact ih σ  l1 (l2 + (Int32.toInt64 (σ.2 26 0 (Int32.toNatClampNeg l4)))) (l4 + (1 : Int32)) (by exact i0) (by exact (Ct.up (by decide) i0.ns i1 (by with_reducible assumption)).2.1) (by have u := (Ct.up (by decide) i0.ns i1 (by with_reducible assumption)).2.2; omega) (by rw [f_X9_owed_L18, if_neg c2, if_neg c3, if_pos c4, if_neg c9] at hK; exact hK)
      · refine r_iconst (v := (1 : Int32)) dX9_owed_44 (by decide) ?_
        refine r_goto (tgt := 49) dX9_owed_45 (by decide) ?_
        refine r_istore dX9_owed_49 (by decide) ?_
        refine r_aload_n dX9_owed_51 rfl ?_
        refine x_get (c := 9) hE (fun _ _ => rfl) dX9_owed_52 fl_RX9_37 (Nat.le_of_ble_eq_true rfl) rfl ?_
        refine x_get (c := 3) hE (fun _ _ => rfl) dX9_owed_55 fl_RX9_283 (Nat.le_of_ble_eq_true rfl) rfl ?_
        refine r_iload dX9_owed_58 rfl ?_
        refine x_ialdV (c := 25) (i := 0) (N := 40) (x := (σ.2 25 0 (Int32.toNatClampNeg l4))) hE (fun _ _ => rfl) dX9_owed_60 (Nat.le_of_ble_eq_true rfl) (by first | with_reducible assumption | exact (Ct.up (by decide) i0.ns i1 (by with_reducible assumption)).1) rfl ?_
        refine r_iload_n dX9_owed_61 rfl ?_
        refine r_icmp_ne (tgt := 69) dX9_owed_62 (by decide) (fun c11 => ?_) (fun c11 => ?_)
        · refine r_iconst (v := (0 : Int32)) dX9_owed_69 (by decide) ?_
          refine r_istore dX9_owed_70 (by decide) ?_
          refine r_iload dX9_owed_72 rfl ?_
          refine r_if_ne (tgt := 82) dX9_owed_74 (by decide) (fun c12 => ?_) (fun c12 => absurd c12 (by decide))
          refine r_aload_n dX9_owed_82 rfl ?_
          refine r_aload_n dX9_owed_83 rfl ?_
          refine r_aload_n dX9_owed_84 rfl ?_
          refine x_get (c := 9) hE (fun _ _ => rfl) dX9_owed_85 fl_RX9_37 (Nat.le_of_ble_eq_true rfl) rfl ?_
          refine x_get (c := 3) hE (fun _ _ => rfl) dX9_owed_88 fl_RX9_286 (Nat.le_of_ble_eq_true rfl) rfl ?_
          refine r_iload dX9_owed_91 rfl ?_
          refine x_ialdV (c := 23) (i := 0) (N := 40) (x := (σ.2 23 0 (Int32.toNatClampNeg l4))) hE (fun _ _ => rfl) dX9_owed_93 (Nat.le_of_ble_eq_true rfl) (by first | with_reducible assumption | exact (Ct.up (by decide) i0.ns i1 (by with_reducible assumption)).1) rfl ?_
          refine x_callW (c := 9) (i := 0) hE (fun _ _ => rfl) (Nat.le_of_ble_eq_true rfl) dX9_owed_94 mf_X9_bottleAt ml_RX9_148 (ok_X9_bottleAt (d := d - 1) hE hX (by omega) _ _ (by first | with_reducible assumption | exact (Ct.up (by decide) i0.ns i1 (by with_reducible assumption)).1)) rfl rfl rfl rfl (Nat.le_of_ble_eq_true rfl) (by omega) ?_
          rw [if_neg (by exact i0.bSb i1 (by with_reducible assumption))]
          refine x_callW (c := 9) (i := 0) hE (fun _ _ => rfl) (Nat.le_of_ble_eq_true rfl) dX9_owed_97 mf_X9_isBarred ml_RX9_169 (ok_X9_isBarred (d := d - 1) hE hX (by omega) _ _ (by first | with_reducible assumption | exact i0.bSl i1 (by with_reducible assumption)) (by first | with_reducible assumption | exact (Ct.up (by decide) i0.ns i1 (by with_reducible assumption)).1)) rfl rfl rfl rfl (Nat.le_of_ble_eq_true rfl) (by omega) ?_
          refine r_if_eq (tgt := 137) dX9_owed_100 (by decide) (fun c13 => ?_) (fun c13 => ?_)
          · refine r_iinc2 (w := (1 : Int32)) dX9_owed_137 rfl (by decide) (by decide) ?_
            refine r_goto (tgt := 18) dX9_owed_140 (by decide) ?_
            refine r_loc (L' := [(0, .ref (am 9 0)), (1, .int l1), (2, .long l2), (4, .int (l4 + (1 : Int32)))]) [3, 4, 5, 0] rfl ?_
            exact ih σ  l1 l2 (l4 + (1 : Int32)) (by exact i0) (by exact (Ct.up (by decide) i0.ns i1 (by with_reducible assumption)).2.1) (by have u := (Ct.up (by decide) i0.ns i1 (by with_reducible assumption)).2.2; omega) (by rw [f_X9_owed_L18, if_neg c2, if_pos c3, if_neg c11, if_pos c13] at hK; exact hK)
          · refine r_lload_n dX9_owed_103 rfl ?_
            refine r_iload dX9_owed_104 rfl ?_
            refine r_if_eq (tgt := 123) dX9_owed_106 (by decide) (fun c14 => ?_) (fun c14 => absurd c14 (by decide))
            refine r_aload_n dX9_owed_123 rfl ?_
            refine x_get (c := 9) hE (fun _ _ => rfl) dX9_owed_124 fl_RX9_37 (Nat.le_of_ble_eq_true rfl) rfl ?_
            refine x_get (c := 3) hE (fun _ _ => rfl) dX9_owed_127 fl_RX9_289 (Nat.le_of_ble_eq_true rfl) rfl ?_
            refine r_iload dX9_owed_130 rfl ?_
            refine x_ialdV (c := 26) (i := 0) (N := 40) (x := (σ.2 26 0 (Int32.toNatClampNeg l4))) hE (fun _ _ => rfl) dX9_owed_132 (Nat.le_of_ble_eq_true rfl) (by first | with_reducible assumption | exact (Ct.up (by decide) i0.ns i1 (by with_reducible assumption)).1) rfl ?_
            refine r_ineg dX9_owed_133 ?_
            refine r_i2l dX9_owed_134 ?_
            refine r_ladd dX9_owed_135 ?_
            refine r_lstore_n dX9_owed_136 (by decide) ?_
            refine r_iinc2 (w := (1 : Int32)) dX9_owed_137 rfl (by decide) (by decide) ?_
            refine r_goto (tgt := 18) dX9_owed_140 (by decide) ?_
            refine r_loc (L' := [(0, .ref (am 9 0)), (1, .int l1), (2, .long (l2 + (Int32.toInt64 (-(σ.2 26 0 (Int32.toNatClampNeg l4)))))), (4, .int (l4 + (1 : Int32)))]) [4, 5, 1, 0] rfl ?_
            exact ih σ  l1 (l2 + (Int32.toInt64 (-(σ.2 26 0 (Int32.toNatClampNeg l4))))) (l4 + (1 : Int32)) (by exact i0) (by exact (Ct.up (by decide) i0.ns i1 (by with_reducible assumption)).2.1) (by have u := (Ct.up (by decide) i0.ns i1 (by with_reducible assumption)).2.2; omega) (by rw [f_X9_owed_L18, if_neg c2, if_pos c3, if_neg c11, if_neg c13] at hK; exact hK)
        · refine r_iconst (v := (1 : Int32)) dX9_owed_65 (by decide) ?_
          refine r_goto (tgt := 70) dX9_owed_66 (by decide) ?_
          refine r_istore dX9_owed_70 (by decide) ?_
          refine r_iload dX9_owed_72 rfl ?_
          refine r_if_ne (tgt := 82) dX9_owed_74 (by decide) (fun c15 => ?_) (fun c15 => absurd c15 (by decide))
          refine r_aload_n dX9_owed_82 rfl ?_
          refine r_aload_n dX9_owed_83 rfl ?_
          refine r_aload_n dX9_owed_84 rfl ?_
          refine x_get (c := 9) hE (fun _ _ => rfl) dX9_owed_85 fl_RX9_37 (Nat.le_of_ble_eq_true rfl) rfl ?_
          refine x_get (c := 3) hE (fun _ _ => rfl) dX9_owed_88 fl_RX9_286 (Nat.le_of_ble_eq_true rfl) rfl ?_
          refine r_iload dX9_owed_91 rfl ?_
          refine x_ialdV (c := 23) (i := 0) (N := 40) (x := (σ.2 23 0 (Int32.toNatClampNeg l4))) hE (fun _ _ => rfl) dX9_owed_93 (Nat.le_of_ble_eq_true rfl) (by first | with_reducible assumption | exact (Ct.up (by decide) i0.ns i1 (by with_reducible assumption)).1) rfl ?_
          refine x_callW (c := 9) (i := 0) hE (fun _ _ => rfl) (Nat.le_of_ble_eq_true rfl) dX9_owed_94 mf_X9_bottleAt ml_RX9_148 (ok_X9_bottleAt (d := d - 1) hE hX (by omega) _ _ (by first | with_reducible assumption | exact (Ct.up (by decide) i0.ns i1 (by with_reducible assumption)).1)) rfl rfl rfl rfl (Nat.le_of_ble_eq_true rfl) (by omega) ?_
          rw [if_neg (by exact i0.bSb i1 (by with_reducible assumption))]
          refine x_callW (c := 9) (i := 0) hE (fun _ _ => rfl) (Nat.le_of_ble_eq_true rfl) dX9_owed_97 mf_X9_isBarred ml_RX9_169 (ok_X9_isBarred (d := d - 1) hE hX (by omega) _ _ (by first | with_reducible assumption | exact i0.bSl i1 (by with_reducible assumption)) (by first | with_reducible assumption | exact (Ct.up (by decide) i0.ns i1 (by with_reducible assumption)).1)) rfl rfl rfl rfl (Nat.le_of_ble_eq_true rfl) (by omega) ?_
          refine r_if_eq (tgt := 137) dX9_owed_100 (by decide) (fun c16 => ?_) (fun c16 => ?_)
          · refine r_iinc2 (w := (1 : Int32)) dX9_owed_137 rfl (by decide) (by decide) ?_
            refine r_goto (tgt := 18) dX9_owed_140 (by decide) ?_
            refine r_loc (L' := [(0, .ref (am 9 0)), (1, .int l1), (2, .long l2), (4, .int (l4 + (1 : Int32)))]) [3, 4, 5, 0] rfl ?_
            exact ih σ  l1 l2 (l4 + (1 : Int32)) (by exact i0) (by exact (Ct.up (by decide) i0.ns i1 (by with_reducible assumption)).2.1) (by have u := (Ct.up (by decide) i0.ns i1 (by with_reducible assumption)).2.2; omega) (by rw [f_X9_owed_L18, if_neg c2, if_pos c3, if_pos c11, if_pos c16] at hK; exact hK)
          · refine r_lload_n dX9_owed_103 rfl ?_
            refine r_iload dX9_owed_104 rfl ?_
            refine r_if_eq (tgt := 123) dX9_owed_106 (by decide) (fun c17 => absurd c17 (by decide)) (fun c17 => ?_)
            refine r_aload_n dX9_owed_109 rfl ?_
            refine x_get (c := 9) hE (fun _ _ => rfl) dX9_owed_110 fl_RX9_37 (Nat.le_of_ble_eq_true rfl) rfl ?_
            refine x_get (c := 3) hE (fun _ _ => rfl) dX9_owed_113 fl_RX9_289 (Nat.le_of_ble_eq_true rfl) rfl ?_
            refine r_iload dX9_owed_116 rfl ?_
            refine x_ialdV (c := 26) (i := 0) (N := 40) (x := (σ.2 26 0 (Int32.toNatClampNeg l4))) hE (fun _ _ => rfl) dX9_owed_118 (Nat.le_of_ble_eq_true rfl) (by first | with_reducible assumption | exact (Ct.up (by decide) i0.ns i1 (by with_reducible assumption)).1) rfl ?_
            refine r_i2l dX9_owed_119 ?_
            refine r_goto (tgt := 135) dX9_owed_120 (by decide) ?_
            refine r_ladd dX9_owed_135 ?_
            refine r_lstore_n dX9_owed_136 (by decide) ?_
            refine r_iinc2 (w := (1 : Int32)) dX9_owed_137 rfl (by decide) (by decide) ?_
            refine r_goto (tgt := 18) dX9_owed_140 (by decide) ?_
            refine r_loc (L' := [(0, .ref (am 9 0)), (1, .int l1), (2, .long (l2 + (Int32.toInt64 (σ.2 26 0 (Int32.toNatClampNeg l4))))), (4, .int (l4 + (1 : Int32)))]) [4, 5, 1, 0] rfl ?_
            exact ih σ  l1 (l2 + (Int32.toInt64 (σ.2 26 0 (Int32.toNatClampNeg l4)))) (l4 + (1 : Int32)) (by exact i0) (by exact (Ct.up (by decide) i0.ns i1 (by with_reducible assumption)).2.1) (by have u := (Ct.up (by decide) i0.ns i1 (by with_reducible assumption)).2.2; omega) (by rw [f_X9_owed_L18, if_neg c2, if_pos c3, if_pos c11, if_neg c16] at hK; exact hK)
def f_X9_owed (S : XSh) (σ : XSt) (p1 : Int32) : Int64 := (if (f_X9_isUpTo p1 (9 : Int32)) = 0 then (-4611686018427387904 : Int64) else (f_X9_owed_L18 (42) S σ p1 (0 : Int64) (0 : Int32)))
set_option maxRecDepth 100000 in
set_option maxHeartbeats 1000000 in
theorem ok_X9_owed {g : GC} {B : hH} {am : XAd} {S : XSh} {d : Nat} (hE : XOk am S) (hX : GX g) (hd : 4 ≤ d) (σ : XSt) (p1 : Int32) (h0 : XInv S σ) : XC g B am S d yX9_owed cX9_owed 7 (some FieldType.long) [.ref (am 9 0), .int p1] (fun v σ' => v = some (.long (f_X9_owed S σ p1)) ∧ σ' = σ) σ := by
  refine AM.of2 (own := RX9) (nm := "owed") (L0 := [(0, .ref (am 9 0)), (1, .int p1)]) (by decide) rfl rfl (Nat.le_of_ble_eq_true rfl) rfl ?_
  refine r_iload_n dX9_owed_0 rfl ?_
  refine r_bipush (v := (9 : Int32)) dX9_owed_1 (by decide) ?_
  refine r_callS0 dX9_owed_3 mf_X9_isUpTo ml_RX9_106 (ok_X9_isUpTo (d := d - 1) (by omega) _ _) rfl rfl (Nat.le_of_ble_eq_true rfl) (by omega) ?_
  refine r_if_ne (tgt := 13) dX9_owed_6 (by decide) (fun c1 => ?_) (fun c1 => ?_)
  · refine r_lconst (v := (0 : Int64)) dX9_owed_13 (by decide) ?_
    refine r_lstore_n dX9_owed_14 (by decide) ?_
    refine r_iconst (v := (0 : Int32)) dX9_owed_15 (by decide) ?_
    refine r_istore dX9_owed_16 (by decide) ?_
    refine r_loc (L' := [(0, .ref (am 9 0)), (1, .int p1), (2, .long (0 : Int64)), (4, .int (0 : Int32))]) [2, 3, 1, 0] rfl ?_
    exact lp_X9_owed_18 hE hX (by omega) (42) σ p1 (0 : Int64) (0 : Int32) (by exact h0) (by exact Ct.zero _) (by omega) ⟨by rw [f_X9_owed, if_neg c1], rfl⟩
  · refine r_ldc2 dX9_owed_9 kc_RX9_227 ?_
    refine r_lret dX9_owed_12 rfl ?_
    exact ⟨_, rfl, by rw [f_X9_owed, if_pos c1], rfl⟩

def f_X9_falls_L46 : Nat → XSh → XSt → Int32 → Int32 → Nat → Int32 → Int64 → Int32 → Int64 × XSt
  | 0, _, σ, _, _, _, _, _, _ => (0, σ)
  | n + 1, S, σ, l1, l2, l3, l4, l5, l7 => (if (σ.1 9 0 3) ≤ l7 then (((l5 * (Int32.toInt64 l2)) / (100 : Int64)), σ) else (if (σ.1 8 (S 1 (Int32.toNatClampNeg l7)) 0) = (σ.1 8 (S 1 l3) 0) then (if (f_X9_isBarred S σ (Int32.toNatClampNeg l7)) = 0 then (f_X9_falls_L46 n S (f_X9_judged S σ (Int32.toNatClampNeg l7) (1 : Int32)).2 l1 l2 l3 l4 (l5 + (Int32.toInt64 (f_X9_judged S σ (Int32.toNatClampNeg l7) (1 : Int32)).1)) (l7 + (1 : Int32))) else (f_X9_falls_L46 n S σ l1 l2 l3 l4 l5 (l7 + (1 : Int32)))) else (if ((l4 >>> (l7 &&& 31)) &&& (1 : Int32)) = (1 : Int32) then (if (f_X9_isBarred S σ (Int32.toNatClampNeg l7)) = 0 then (f_X9_falls_L46 n S (f_X9_judged S σ (Int32.toNatClampNeg l7) (1 : Int32)).2 l1 l2 l3 l4 (l5 + (Int32.toInt64 (f_X9_judged S σ (Int32.toNatClampNeg l7) (1 : Int32)).1)) (l7 + (1 : Int32))) else (f_X9_falls_L46 n S σ l1 l2 l3 l4 l5 (l7 + (1 : Int32)))) else (f_X9_falls_L46 n S σ l1 l2 l3 l4 l5 (l7 + (1 : Int32))))))
set_option maxRecDepth 100000 in
set_option maxHeartbeats 1000000 in
theorem lp_X9_falls_46 {g : GC} {B : hH} {am : XAd} {S : XSh} {d : Nat} {K : Option Value → XSt → Prop} (hE : XOk am S) (hX : GX g) (hd : 5 ≤ d) : ∀ (fuel : Nat) (σ : XSt) (l1 : Int32) (l2 : Int32) (l3 : Nat) (l4 : Int32) (l5 : Int64) (l7 : Int32), XInv S σ → l3 < lim S 1 → Ct l7 24 → 25 - l7.toNatClampNeg < fuel → K (some (.long (f_X9_falls_L46 fuel S σ l1 l2 l3 l4 l5 l7).1)) (f_X9_falls_L46 fuel S σ l1 l2 l3 l4 l5 l7).2 → XW g B am S RX9 cX9_falls 9 (some FieldType.long) "falls" d K 46 [(0, .ref (am 9 0)), (1, .int l1), (2, .int l2), (3, .ref (am 1 l3)), (4, .int l4), (5, .long l5), (7, .int l7)] [] σ := by
  intro fuel
  induction fuel with
  | zero => intro σ l1 l2 l3 l4 l5 l7 i0 i1 i2 hm hK; exact absurd hm (Nat.not_lt_zero _)
  | succ n ih =>
    intro σ l1 l2 l3 l4 l5 l7 i0 i1 i2 hm hK
    refine r_iload dX9_falls_46 rfl ?_
    refine r_aload_n dX9_falls_48 rfl ?_
    refine x_getI (c := 9) (x := (σ.1 9 0 3)) hE (fun _ _ => rfl) (fun _ => rfl) dX9_falls_49 fl_RX9_142 (Nat.le_of_ble_eq_true rfl) rfl ?_
    refine r_icmp_ge (tgt := 126) dX9_falls_52 (by decide) (fun c3 => ?_) (fun c3 => ?_)
    · refine r_lload dX9_falls_126 rfl ?_
      refine r_iload_n dX9_falls_128 rfl ?_
      refine r_i2l dX9_falls_129 ?_
      refine r_lmul dX9_falls_130 ?_
      refine r_ldc2 dX9_falls_131 kc_RX9_301 ?_
      refine r_ldiv dX9_falls_134 (by decide) ?_
      refine r_lret dX9_falls_135 rfl ?_
      exact ⟨_, rfl, by rw [f_X9_falls_L46, if_pos c3] at hK; exact hK⟩
    · refine r_aload_n dX9_falls_55 rfl ?_
      refine x_get (c := 9) hE (fun _ _ => rfl) dX9_falls_56 fl_RX9_17 (Nat.le_of_ble_eq_true rfl) rfl ?_
      refine r_iload dX9_falls_59 rfl ?_
      refine x_aald (c := 11) (c2 := 1) (t0 := 4) (n0 := S 0 1) hE (fun _ _ => rfl) (Nat.le_of_ble_eq_true rfl) rfl dX9_falls_61 (by exact (i0.bUp i2 (by with_reducible assumption)).2.1) (by exact (i0.bUp i2 (by with_reducible assumption)).1) ?_
      refine r_astore dX9_falls_62 (by decide) ?_
      refine r_aload dX9_falls_64 rfl ?_
      refine r_ifnull dX9_falls_66 ?_
      refine r_aload dX9_falls_69 rfl ?_
      refine x_get (c := 1) hE (fun _ _ => rfl) dX9_falls_71 fl_RX9_155 (by first | with_reducible assumption | exact (i0.bUp i2 (by with_reducible assumption)).1 | exact i0.lab (i0.bUp i2 (by with_reducible assumption)).1 | exact i0.lab i1) rfl ?_
      refine x_getI (c := 8) (x := (σ.1 8 (S 1 (Int32.toNatClampNeg l7)) 0)) hE (fun _ _ => rfl) (fun _ => rfl) dX9_falls_74 fl_RX9_159 (by first | with_reducible assumption | exact (i0.bUp i2 (by with_reducible assumption)).1 | exact i0.lab (i0.bUp i2 (by with_reducible assumption)).1 | exact i0.lab i1) rfl ?_
      refine r_aload_n dX9_falls_77 rfl ?_
      refine x_get (c := 1) hE (fun _ _ => rfl) dX9_falls_78 fl_RX9_155 (by first | with_reducible assumption | exact (i0.bUp i2 (by with_reducible assumption)).1 | exact i0.lab (i0.bUp i2 (by with_reducible assumption)).1 | exact i0.lab i1) rfl ?_
      refine x_getI (c := 8) (x := (σ.1 8 (S 1 l3) 0)) hE (fun _ _ => rfl) (fun _ => rfl) dX9_falls_81 fl_RX9_159 (by first | with_reducible assumption | exact (i0.bUp i2 (by with_reducible assumption)).1 | exact i0.lab (i0.bUp i2 (by with_reducible assumption)).1 | exact i0.lab i1) rfl ?_
      refine r_icmp_eq (tgt := 98) dX9_falls_84 (by decide) (fun c4 => ?_) (fun c4 => ?_)
      · refine r_aload_n dX9_falls_98 rfl ?_
        refine r_aload dX9_falls_99 rfl ?_
        refine x_callW (c := 9) (i := 0) hE (fun _ _ => rfl) (Nat.le_of_ble_eq_true rfl) dX9_falls_101 mf_X9_isBarred ml_RX9_169 (ok_X9_isBarred (d := d - 1) hE hX (by omega) _ _ (by first | with_reducible assumption | exact (i0.bUp i2 (by with_reducible assumption)).1 | exact i0.lab (i0.bUp i2 (by with_reducible assumption)).1 | exact i0.lab i1) (by first | with_reducible assumption | exact h0.ns)) rfl rfl rfl rfl (Nat.le_of_ble_eq_true rfl) (by omega) ?_
        refine r_if_ne (tgt := 120) dX9_falls_104 (by decide) (fun c5 => ?_) (fun c5 => ?_)
        · refine r_iinc2 (w := (1 : Int32)) dX9_falls_120 rfl (by decide) (by decide) ?_
          refine r_goto (tgt := 46) dX9_falls_123 (by decide) ?_
          refine r_loc (L' := [(0, .ref (am 9 0)), (1, .int l1), (2, .int l2), (3, .ref (am 1 l3)), (4, .int l4), (5, .long l5), (7, .int (l7 + (1 : Int32)))]) [2, 3, 4, 5, 6, 7, 0] rfl ?_
          exact ih σ  l1 l2 l3 l4 l5 (l7 + (1 : Int32)) (by first | with_reducible exact i0 | exact i0.jd) (by exact i1) (by exact (i0.bUp i2 (by with_reducible assumption)).2.2.1) (by have u := (i0.bUp i2 (by with_reducible assumption)).2.2.2; omega) (by rw [f_X9_falls_L46, if_neg c3, if_pos c4, if_neg c5] at hK; exact hK)
        · refine r_lload dX9_falls_107 rfl ?_
          refine r_aload_n dX9_falls_109 rfl ?_
          refine r_aload dX9_falls_110 rfl ?_
          refine r_iconst (v := (1 : Int32)) dX9_falls_112 (by decide) ?_
          refine x_callW (c := 9) (i := 0) hE (fun _ _ => rfl) (Nat.le_of_ble_eq_true rfl) dX9_falls_113 mf_X9_judged ml_RX9_183 (ok_X9_judged (d := d - 1) hE hX (by omega) _ _ _ (by first | with_reducible assumption | exact (i0.bUp i2 (by with_reducible assumption)).1 | exact i0.lab (i0.bUp i2 (by with_reducible assumption)).1 | exact i0.lab i1) (by first | with_reducible assumption | exact h0.ns)) rfl rfl rfl rfl (Nat.le_of_ble_eq_true rfl) (by omega) ?_
          refine r_i2l dX9_falls_116 ?_
          refine r_ladd dX9_falls_117 ?_
          refine r_lstore dX9_falls_118 (by decide) ?_
          refine r_iinc2 (w := (1 : Int32)) dX9_falls_120 rfl (by decide) (by decide) ?_
          refine r_goto (tgt := 46) dX9_falls_123 (by decide) ?_
          refine r_loc (L' := [(0, .ref (am 9 0)), (1, .int l1), (2, .int l2), (3, .ref (am 1 l3)), (4, .int l4), (5, .long (l5 + (Int32.toInt64 (f_X9_judged S σ (Int32.toNatClampNeg l7) (1 : Int32)).1))), (7, .int (l7 + (1 : Int32)))]) [3, 4, 5, 6, 7, 1, 0] rfl ?_
          exact ih (f_X9_judged S σ (Int32.toNatClampNeg l7) (1 : Int32)).2  l1 l2 l3 l4 (l5 + (Int32.toInt64 (f_X9_judged S σ (Int32.toNatClampNeg l7) (1 : Int32)).1)) (l7 + (1 : Int32)) (by first | with_reducible exact i0 | exact i0.jd) (by exact i1) (by exact (i0.bUp i2 (by with_reducible assumption)).2.2.1) (by have u := (i0.bUp i2 (by with_reducible assumption)).2.2.2; omega) (by rw [f_X9_falls_L46, if_neg c3, if_pos c4, if_pos c5] at hK; exact hK)
      · refine r_iload dX9_falls_87 rfl ?_
        refine r_iload dX9_falls_89 rfl ?_
        refine r_ishr dX9_falls_91 ?_
        refine r_iconst (v := (1 : Int32)) dX9_falls_92 (by decide) ?_
        refine r_iand dX9_falls_93 ?_
        refine r_iconst (v := (1 : Int32)) dX9_falls_94 (by decide) ?_
        refine r_icmp_ne (tgt := 120) dX9_falls_95 (by decide) (fun c6 => ?_) (fun c6 => ?_)
        · refine r_iinc2 (w := (1 : Int32)) dX9_falls_120 rfl (by decide) (by decide) ?_
          refine r_goto (tgt := 46) dX9_falls_123 (by decide) ?_
          refine r_loc (L' := [(0, .ref (am 9 0)), (1, .int l1), (2, .int l2), (3, .ref (am 1 l3)), (4, .int l4), (5, .long l5), (7, .int (l7 + (1 : Int32)))]) [2, 3, 4, 5, 6, 7, 0] rfl ?_
          exact ih σ  l1 l2 l3 l4 l5 (l7 + (1 : Int32)) (by first | with_reducible exact i0 | exact i0.jd) (by exact i1) (by exact (i0.bUp i2 (by with_reducible assumption)).2.2.1) (by have u := (i0.bUp i2 (by with_reducible assumption)).2.2.2; omega) (by rw [f_X9_falls_L46, if_neg c3, if_neg c4, if_neg c6] at hK; exact hK)
        · refine r_aload_n dX9_falls_98 rfl ?_
          refine r_aload dX9_falls_99 rfl ?_
          refine x_callW (c := 9) (i := 0) hE (fun _ _ => rfl) (Nat.le_of_ble_eq_true rfl) dX9_falls_101 mf_X9_isBarred ml_RX9_169 (ok_X9_isBarred (d := d - 1) hE hX (by omega) _ _ (by first | with_reducible assumption | exact (i0.bUp i2 (by with_reducible assumption)).1 | exact i0.lab (i0.bUp i2 (by with_reducible assumption)).1 | exact i0.lab i1) (by first | with_reducible assumption | exact h0.ns)) rfl rfl rfl rfl (Nat.le_of_ble_eq_true rfl) (by omega) ?_
          refine r_if_ne (tgt := 120) dX9_falls_104 (by decide) (fun c7 => ?_) (fun c7 => ?_)
          · refine r_iinc2 (w := (1 : Int32)) dX9_falls_120 rfl (by decide) (by decide) ?_
            refine r_goto (tgt := 46) dX9_falls_123 (by decide) ?_
            refine r_loc (L' := [(0, .ref (am 9 0)), (1, .int l1), (2, .int l2), (3, .ref (am 1 l3)), (4, .int l4), (5, .long l5), (7, .int (l7 + (1 : Int32)))]) [2, 3, 4, 5, 6, 7, 0] rfl ?_
            exact ih σ  l1 l2 l3 l4 l5 (l7 + (1 : Int32)) (by first | with_reducible exact i0 | exact i0.jd) (by exact i1) (by exact (i0.bUp i2 (by with_reducible assumption)).2.2.1) (by have u := (i0.bUp i2 (by with_reducible assumption)).2.2.2; omega) (by rw [f_X9_falls_L46, if_neg c3, if_neg c4, if_pos c6, if_neg c7] at hK; exact hK)
          · refine r_lload dX9_falls_107 rfl ?_
            refine r_aload_n dX9_falls_109 rfl ?_
            refine r_aload dX9_falls_110 rfl ?_
            refine r_iconst (v := (1 : Int32)) dX9_falls_112 (by decide) ?_
            refine x_callW (c := 9) (i := 0) hE (fun _ _ => rfl) (Nat.le_of_ble_eq_true rfl) dX9_falls_113 mf_X9_judged ml_RX9_183 (ok_X9_judged (d := d - 1) hE hX (by omega) _ _ _ (by first | with_reducible assumption | exact (i0.bUp i2 (by with_reducible assumption)).1 | exact i0.lab (i0.bUp i2 (by with_reducible assumption)).1 | exact i0.lab i1) (by first | with_reducible assumption | exact h0.ns)) rfl rfl rfl rfl (Nat.le_of_ble_eq_true rfl) (by omega) ?_
            refine r_i2l dX9_falls_116 ?_
            refine r_ladd dX9_falls_117 ?_
            refine r_lstore dX9_falls_118 (by decide) ?_
            refine r_iinc2 (w := (1 : Int32)) dX9_falls_120 rfl (by decide) (by decide) ?_
            refine r_goto (tgt := 46) dX9_falls_123 (by decide) ?_
            refine r_loc (L' := [(0, .ref (am 9 0)), (1, .int l1), (2, .int l2), (3, .ref (am 1 l3)), (4, .int l4), (5, .long (l5 + (Int32.toInt64 (f_X9_judged S σ (Int32.toNatClampNeg l7) (1 : Int32)).1))), (7, .int (l7 + (1 : Int32)))]) [3, 4, 5, 6, 7, 1, 0] rfl ?_
            exact ih (f_X9_judged S σ (Int32.toNatClampNeg l7) (1 : Int32)).2  l1 l2 l3 l4 (l5 + (Int32.toInt64 (f_X9_judged S σ (Int32.toNatClampNeg l7) (1 : Int32)).1)) (l7 + (1 : Int32)) (by first | with_reducible exact i0 | exact i0.jd) (by exact i1) (by exact (i0.bUp i2 (by with_reducible assumption)).2.2.1) (by have u := (i0.bUp i2 (by with_reducible assumption)).2.2.2; omega) (by rw [f_X9_falls_L46, if_neg c3, if_neg c4, if_pos c6, if_pos c7] at hK; exact hK)
def f_X9_falls (S : XSh) (σ : XSt) (p1 : Int32) (p2 : Int32) : Int64 × XSt := (if (f_X9_bottleAt S σ p1) = 0 then ((-4611686018427387904 : Int64), σ) else (if (f_X9_isUpTo p2 (100 : Int32)) = 0 then ((-4611686018427387904 : Int64), σ) else (f_X9_falls_L46 (26) S σ p1 p2 (Int32.toNatClampNeg p1) (f_X3_bottlesOf S σ (f_X3_handsOf S σ p1)) (0 : Int64) (0 : Int32))))
set_option maxRecDepth 100000 in
set_option maxHeartbeats 1000000 in
theorem ok_X9_falls {g : GC} {B : hH} {am : XAd} {S : XSh} {d : Nat} (hE : XOk am S) (hX : GX g) (hd : 5 ≤ d) (σ : XSt) (p1 : Int32) (p2 : Int32) (h0 : XInv S σ) : XC g B am S d yX9_falls cX9_falls 9 (some FieldType.long) [.ref (am 9 0), .int p1, .int p2] (fun v σ' => v = some (.long (f_X9_falls S σ p1 p2).1) ∧ σ' = (f_X9_falls S σ p1 p2).2) σ := by
  refine AM.of2 (own := RX9) (nm := "falls") (L0 := [(0, .ref (am 9 0)), (1, .int p1), (2, .int p2)]) (by decide) rfl rfl (Nat.le_of_ble_eq_true rfl) rfl ?_
  refine r_aload_n dX9_falls_0 rfl ?_
  refine r_iload_n dX9_falls_1 rfl ?_
  by_cases c1 : (f_X9_bottleAt S σ p1) = 0
  · refine x_callW (c := 9) (i := 0) hE (fun _ _ => rfl) (Nat.le_of_ble_eq_true rfl) dX9_falls_2 mf_X9_bottleAt ml_RX9_148 (ok_X9_bottleAt (d := d - 1) hE hX (by omega) _ _ (by first | with_reducible assumption | exact h0.ns)) rfl rfl rfl rfl (Nat.le_of_ble_eq_true rfl) (by omega) ?_
    rw [if_pos c1]
    refine r_astore_nN dX9_falls_5 (by decide) ?_
    refine r_aload_nN dX9_falls_6 rfl ?_
    refine r_ifnullN (tgt := 19) dX9_falls_7 (by decide) ?_
    refine r_ldc2 dX9_falls_19 kc_RX9_227 ?_
    refine r_lret dX9_falls_22 rfl ?_
    exact ⟨_, rfl, by rw [f_X9_falls, if_pos c1], by rw [f_X9_falls, if_pos c1]⟩
  · refine x_callW (c := 9) (i := 0) hE (fun _ _ => rfl) (Nat.le_of_ble_eq_true rfl) dX9_falls_2 mf_X9_bottleAt ml_RX9_148 (ok_X9_bottleAt (d := d - 1) hE hX (by omega) _ _ (by first | with_reducible assumption | exact h0.ns)) rfl rfl rfl rfl (Nat.le_of_ble_eq_true rfl) (by omega) ?_
    rw [if_neg c1]
    have lc1 := lv_X9_bottleAt h0 c1
    refine r_astore_n dX9_falls_5 (by decide) ?_
    refine r_aload_n dX9_falls_6 rfl ?_
    refine r_ifnull dX9_falls_7 ?_
    refine r_iload_n dX9_falls_10 rfl ?_
    refine r_bipush (v := (100 : Int32)) dX9_falls_11 (by decide) ?_
    refine r_callS0 dX9_falls_13 mf_X9_isUpTo ml_RX9_106 (ok_X9_isUpTo (d := d - 1) (by omega) _ _) rfl rfl (Nat.le_of_ble_eq_true rfl) (by omega) ?_
    refine r_if_ne (tgt := 23) dX9_falls_16 (by decide) (fun c2 => ?_) (fun c2 => ?_)
    · refine r_aload_n dX9_falls_23 rfl ?_
      refine x_get (c := 9) hE (fun _ _ => rfl) dX9_falls_24 fl_RX9_37 (Nat.le_of_ble_eq_true rfl) rfl ?_
      refine r_aload_n dX9_falls_27 rfl ?_
      refine x_get (c := 9) hE (fun _ _ => rfl) dX9_falls_28 fl_RX9_37 (Nat.le_of_ble_eq_true rfl) rfl ?_
      refine r_iload_n dX9_falls_31 rfl ?_
      refine x_callW (c := 3) (i := 0) hE (fun _ _ => rfl) (Nat.le_of_ble_eq_true rfl) dX9_falls_32 mf_X3_handsOf ml_RX9_295 (ok_X3_handsOf (d := d - 1) hE hX (by omega) _ _ (by first | with_reducible assumption | exact h0.ns)) rfl rfl rfl rfl (Nat.le_of_ble_eq_true rfl) (by omega) ?_
      refine x_callW (c := 3) (i := 0) hE (fun _ _ => rfl) (Nat.le_of_ble_eq_true rfl) dX9_falls_35 mf_X3_bottlesOf ml_RX9_298 (ok_X3_bottlesOf (d := d - 1) hE hX (by omega) _ _ (by first | with_reducible assumption | exact h0.ns)) rfl rfl rfl rfl (Nat.le_of_ble_eq_true rfl) (by omega) ?_
      refine r_istore dX9_falls_38 (by decide) ?_
      refine r_lconst (v := (0 : Int64)) dX9_falls_40 (by decide) ?_
      refine r_lstore dX9_falls_41 (by decide) ?_
      refine r_iconst (v := (0 : Int32)) dX9_falls_43 (by decide) ?_
      refine r_istore dX9_falls_44 (by decide) ?_
      refine r_loc (L' := [(0, .ref (am 9 0)), (1, .int p1), (2, .int p2), (3, .ref (am 1 (Int32.toNatClampNeg p1))), (4, .int (f_X3_bottlesOf S σ (f_X3_handsOf S σ p1))), (5, .long (0 : Int64)), (7, .int (0 : Int32))]) [4, 5, 6, 3, 2, 1, 0] rfl ?_
      exact lp_X9_falls_46 hE hX (by omega) (26) σ p1 p2 (Int32.toNatClampNeg p1) (f_X3_bottlesOf S σ (f_X3_handsOf S σ p1)) (0 : Int64) (0 : Int32) (by exact h0) (by with_reducible assumption) (by exact Ct.zero _) (by omega) ⟨by rw [f_X9_falls, if_neg c1, if_neg c2], by rw [f_X9_falls, if_neg c1, if_neg c2]⟩
    · refine r_ldc2 dX9_falls_19 kc_RX9_227 ?_
      refine r_lret dX9_falls_22 rfl ?_
      exact ⟨_, rfl, by rw [f_X9_falls, if_neg c1, if_pos c2], by rw [f_X9_falls, if_neg c1, if_pos c2]⟩

def f_X9_saw_L33 : Nat → XSh → XSt → Int32 → Nat → Int32 → Int32
  | 0, _, _, _, _, _ => 0
  | n + 1, S, σ, l1, l2, l3 => (if (3 : Int32) ≤ l3 then (0 : Int32) else (if (f_X0_bars S σ 0 l2 l3) = 0 then (f_X9_saw_L33 n S σ l1 l2 (l3 + (1 : Int32))) else (if (σ.2 27 0 (Int32.toNatClampNeg l1)) < (σ.2 22 0 (Int32.toNatClampNeg l3)) then (f_X9_saw_L33 n S σ l1 l2 (l3 + (1 : Int32))) else (1 : Int32))))
set_option maxRecDepth 100000 in
set_option maxHeartbeats 1000000 in
theorem lp_X9_saw_33 {g : GC} {B : hH} {am : XAd} {S : XSh} {d : Nat} {K : Option Value → XSt → Prop} (hE : XOk am S) (hX : GX g) (hd : 2 ≤ d) : ∀ (fuel : Nat) (σ : XSt) (l1 : Int32) (l2 : Nat) (l3 : Int32), XInv S σ → vp_in l1 40 → l2 < lim S 1 → Ct l3 3 → 4 - l3.toNatClampNeg < fuel → K (some (.int (f_X9_saw_L33 fuel S σ l1 l2 l3))) σ → XW g B am S RX9 cX9_saw 4 (some FieldType.int) "saw" d K 33 [(0, .ref (am 9 0)), (1, .int l1), (2, .ref (am 1 l2)), (3, .int l3)] [] σ := by
  intro fuel
  induction fuel with
  | zero => intro σ l1 l2 l3 i0 i1 i2 i3 hm hK; exact absurd hm (Nat.not_lt_zero _)
  | succ n ih =>
    intro σ l1 l2 l3 i0 i1 i2 i3 hm hK
    refine r_iload_n dX9_saw_33 rfl ?_
    refine r_iconst (v := (3 : Int32)) dX9_saw_34 (by decide) ?_
    refine r_icmp_ge (tgt := 83) dX9_saw_35 (by decide) (fun c2 => ?_) (fun c2 => ?_)
    · refine r_iconst (v := (0 : Int32)) dX9_saw_83 (by decide) ?_
      refine r_iret dX9_saw_84 rfl rfl ?_
      exact ⟨_, rfl, by rw [f_X9_saw_L33, if_pos c2] at hK; exact hK⟩
    · refine r_aload_n dX9_saw_38 rfl ?_
      refine r_ifnull dX9_saw_39 ?_
      refine r_aload_n dX9_saw_42 rfl ?_
      refine x_get (c := 9) hE (fun _ _ => rfl) dX9_saw_43 fl_RX9_30 (Nat.le_of_ble_eq_true rfl) rfl ?_
      refine r_aload_n dX9_saw_46 rfl ?_
      refine r_iload_n dX9_saw_47 rfl ?_
      refine x_callW (c := 0) (i := 0) hE (fun _ _ => rfl) (Nat.le_of_ble_eq_true rfl) dX9_saw_48 mf_X0_bars ml_RX9_303 (ok_X0_bars (d := d - 1) hE hX (by omega) _ _ _ _ (Nat.le_of_ble_eq_true rfl) (by with_reducible assumption) (by with_reducible assumption)) rfl rfl rfl rfl (Nat.le_of_ble_eq_true rfl) (by omega) ?_
      refine r_if_eq (tgt := 77) dX9_saw_51 (by decide) (fun c3 => ?_) (fun c3 => ?_)
      · refine r_iinc2 (w := (1 : Int32)) dX9_saw_77 rfl (by decide) (by decide) ?_
        refine r_goto (tgt := 33) dX9_saw_80 (by decide) ?_
        refine r_loc (L' := [(0, .ref (am 9 0)), (1, .int l1), (2, .ref (am 1 l2)), (3, .int (l3 + (1 : Int32)))]) [1, 2, 3, 0] rfl ?_
        exact ih σ  l1 l2 (l3 + (1 : Int32)) (by exact i0) (by exact i1) (by exact i2) (by exact (Ct.up (by decide) ct3 i3 (by with_reducible assumption)).2.1) (by have u := (Ct.up (by decide) ct3 i3 (by with_reducible assumption)).2.2; omega) (by rw [f_X9_saw_L33, if_neg c2, if_pos c3] at hK; exact hK)
      · refine r_aload_n dX9_saw_54 rfl ?_
        refine x_get (c := 9) hE (fun _ _ => rfl) dX9_saw_55 fl_RX9_30 (Nat.le_of_ble_eq_true rfl) rfl ?_
        refine x_get (c := 0) hE (fun _ _ => rfl) dX9_saw_58 fl_RX9_139 (Nat.le_of_ble_eq_true rfl) rfl ?_
        refine r_iload_n dX9_saw_61 rfl ?_
        refine x_ialdV (c := 22) (i := 0) (N := 3) (x := (σ.2 22 0 (Int32.toNatClampNeg l3))) hE (fun _ _ => rfl) dX9_saw_62 (Nat.le_of_ble_eq_true rfl) (by exact (Ct.up (by decide) ct3 i3 (by with_reducible assumption)).1) rfl ?_
        refine r_aload_n dX9_saw_63 rfl ?_
        refine x_get (c := 9) hE (fun _ _ => rfl) dX9_saw_64 fl_RX9_37 (Nat.le_of_ble_eq_true rfl) rfl ?_
        refine x_get (c := 3) hE (fun _ _ => rfl) dX9_saw_67 fl_RX9_307 (Nat.le_of_ble_eq_true rfl) rfl ?_
        refine r_iload_n dX9_saw_70 rfl ?_
        refine x_ialdV (c := 27) (i := 0) (N := 40) (x := (σ.2 27 0 (Int32.toNatClampNeg l1))) hE (fun _ _ => rfl) dX9_saw_71 (Nat.le_of_ble_eq_true rfl) (by exact i1) rfl ?_
        refine r_icmp_gt (tgt := 77) dX9_saw_72 (by decide) (fun c4 => ?_) (fun c4 => ?_)
        · refine r_iinc2 (w := (1 : Int32)) dX9_saw_77 rfl (by decide) (by decide) ?_
          refine r_goto (tgt := 33) dX9_saw_80 (by decide) ?_
          refine r_loc (L' := [(0, .ref (am 9 0)), (1, .int l1), (2, .ref (am 1 l2)), (3, .int (l3 + (1 : Int32)))]) [1, 2, 3, 0] rfl ?_
          exact ih σ  l1 l2 (l3 + (1 : Int32)) (by exact i0) (by exact i1) (by exact i2) (by exact (Ct.up (by decide) ct3 i3 (by with_reducible assumption)).2.1) (by have u := (Ct.up (by decide) ct3 i3 (by with_reducible assumption)).2.2; omega) (by rw [f_X9_saw_L33, if_neg c2, if_neg c3, if_pos c4] at hK; exact hK)
        · refine r_iconst (v := (1 : Int32)) dX9_saw_75 (by decide) ?_
          refine r_iret dX9_saw_76 rfl rfl ?_
          exact ⟨_, rfl, by rw [f_X9_saw_L33, if_neg c2, if_neg c3, if_neg c4] at hK; exact hK⟩
def f_X9_saw (S : XSh) (σ : XSt) (p1 : Int32) : Int32 := (if (f_X9_isBelow p1 (σ.1 3 0 5)) = 0 then (-2 : Int32) else (f_X9_saw_L33 (5) S σ p1 (Int32.toNatClampNeg (σ.2 23 0 (Int32.toNatClampNeg p1))) (0 : Int32)))
set_option maxRecDepth 100000 in
set_option maxHeartbeats 1000000 in
theorem ok_X9_saw {g : GC} {B : hH} {am : XAd} {S : XSh} {d : Nat} (hE : XOk am S) (hX : GX g) (hd : 2 ≤ d) (σ : XSt) (p1 : Int32) (h0 : XInv S σ) : XC g B am S d yX9_saw cX9_saw 4 (some FieldType.int) [.ref (am 9 0), .int p1] (fun v σ' => v = some (.int (f_X9_saw S σ p1)) ∧ σ' = σ) σ := by
  refine AM.of2 (own := RX9) (nm := "saw") (L0 := [(0, .ref (am 9 0)), (1, .int p1)]) (by decide) rfl rfl (Nat.le_of_ble_eq_true rfl) rfl ?_
  refine r_iload_n dX9_saw_0 rfl ?_
  refine r_aload_n dX9_saw_1 rfl ?_
  refine x_get (c := 9) hE (fun _ _ => rfl) dX9_saw_2 fl_RX9_37 (Nat.le_of_ble_eq_true rfl) rfl ?_
  refine x_getI (c := 3) (x := (σ.1 3 0 5)) hE (fun _ _ => rfl) (fun _ => rfl) dX9_saw_5 fl_RX9_199 (Nat.le_of_ble_eq_true rfl) rfl ?_
  refine r_callS0 dX9_saw_8 mf_X9_isBelow ml_RX9_136 (ok_X9_isBelow (d := d - 1) (by omega) _ _) rfl rfl (Nat.le_of_ble_eq_true rfl) (by omega) ?_
  refine r_if_ne (tgt := 17) dX9_saw_11 (by decide) (fun c1 => ?_) (fun c1 => ?_)
  · refine r_aload_n dX9_saw_17 rfl ?_
    refine r_aload_n dX9_saw_18 rfl ?_
    refine x_get (c := 9) hE (fun _ _ => rfl) dX9_saw_19 fl_RX9_37 (Nat.le_of_ble_eq_true rfl) rfl ?_
    refine x_get (c := 3) hE (fun _ _ => rfl) dX9_saw_22 fl_RX9_286 (Nat.le_of_ble_eq_true rfl) rfl ?_
    refine r_iload_n dX9_saw_25 rfl ?_
    refine x_ialdV (c := 23) (i := 0) (N := 40) (x := (σ.2 23 0 (Int32.toNatClampNeg p1))) hE (fun _ _ => rfl) dX9_saw_26 (Nat.le_of_ble_eq_true rfl) (by exact (h0.below_sz (by with_reducible assumption)).2.2) rfl ?_
    refine x_callW (c := 9) (i := 0) hE (fun _ _ => rfl) (Nat.le_of_ble_eq_true rfl) dX9_saw_27 mf_X9_bottleAt ml_RX9_148 (ok_X9_bottleAt (d := d - 1) hE hX (by omega) _ _ (by with_reducible assumption)) rfl rfl rfl rfl (Nat.le_of_ble_eq_true rfl) (by omega) ?_
    rw [if_neg (by exact h0.bSb (h0.below_sz (by with_reducible assumption)).1 (h0.below_sz (by with_reducible assumption)).2.1)]
    refine r_astore_n dX9_saw_30 (by decide) ?_
    refine r_iconst (v := (0 : Int32)) dX9_saw_31 (by decide) ?_
    refine r_istore_n dX9_saw_32 (by decide) ?_
    refine r_loc (L' := [(0, .ref (am 9 0)), (1, .int p1), (2, .ref (am 1 (Int32.toNatClampNeg (σ.2 23 0 (Int32.toNatClampNeg p1))))), (3, .int (0 : Int32))]) [2, 3, 1, 0] rfl ?_
    exact lp_X9_saw_33 hE hX (by omega) (5) σ p1 (Int32.toNatClampNeg (σ.2 23 0 (Int32.toNatClampNeg p1))) (0 : Int32) (by exact h0) (by exact (h0.below_sz (by with_reducible assumption)).2.2) (by exact h0.bSl (h0.below_sz (by with_reducible assumption)).1 (h0.below_sz (by with_reducible assumption)).2.1) (by exact Ct.zero _) (by omega) ⟨by rw [f_X9_saw, if_neg c1], rfl⟩
  · refine r_bipush (v := (-2 : Int32)) dX9_saw_14 (by decide) ?_
    refine r_iret dX9_saw_16 rfl rfl ?_
    exact ⟨_, rfl, by rw [f_X9_saw, if_pos c1], rfl⟩

def f_X9_image_L2 : Nat → XSh → XSt → Int32 → Int32 × XSt
  | 0, _, σ, _ => (0, σ)
  | n + 1, S, σ, l1 => (if (σ.1 9 0 1) ≤ l1 then (((f_X0_become S (xp σ 2 0 2 (σ.1 9 0 1)) 1 0).1 3 0 5), (xp (xp (f_X0_become S (xp σ 2 0 2 (σ.1 9 0 1)) 1 0) 2 0 3 ((f_X0_become S (xp σ 2 0 2 (σ.1 9 0 1)) 1 0).1 9 0 6)) 2 0 4 ((f_X0_become S (xp σ 2 0 2 (σ.1 9 0 1)) 1 0).1 3 0 5))) else (f_X9_image_L2 n S (xa σ 31 0 (Int32.toNatClampNeg l1) (σ.1 8 (Int32.toNatClampNeg l1) 5)) (l1 + (1 : Int32))))
set_option maxRecDepth 100000 in
set_option maxHeartbeats 1000000 in
theorem lp_X9_image_2 {g : GC} {B : hH} {am : XAd} {S : XSh} {d : Nat} {K : Option Value → XSt → Prop} (hE : XOk am S) (hX : GX g) (hd : 2 ≤ d) : ∀ (fuel : Nat) (σ : XSt) (l1 : Int32), XInv S σ → Ct l1 8 → 9 - l1.toNatClampNeg < fuel → K (some (.int (f_X9_image_L2 fuel S σ l1).1)) (f_X9_image_L2 fuel S σ l1).2 → XW g B am S RX9 cX9_image 3 (some FieldType.int) "image" d K 2 [(0, .ref (am 9 0)), (1, .int l1)] [] σ := by
  intro fuel
  induction fuel with
  | zero => intro σ l1 i0 i1 hm hK; exact absurd hm (Nat.not_lt_zero _)
  | succ n ih =>
    intro σ l1 i0 i1 hm hK
    refine r_iload_n dX9_image_2 rfl ?_
    refine r_aload_n dX9_image_3 rfl ?_
    refine x_getI (c := 9) (x := (σ.1 9 0 1)) hE (fun _ _ => rfl) (fun _ => rfl) dX9_image_4 fl_RX9_115 (Nat.le_of_ble_eq_true rfl) rfl ?_
    refine r_icmp_ge (tgt := 44) dX9_image_7 (by decide) (fun c1 => ?_) (fun c1 => ?_)
    · refine r_aload_n dX9_image_44 rfl ?_
      refine x_get (c := 9) hE (fun _ _ => rfl) dX9_image_45 fl_RX9_63 (Nat.le_of_ble_eq_true rfl) rfl ?_
      refine r_aload_n dX9_image_48 rfl ?_
      refine x_getI (c := 9) (x := (σ.1 9 0 1)) hE (fun _ _ => rfl) (fun _ => rfl) dX9_image_49 fl_RX9_115 (Nat.le_of_ble_eq_true rfl) rfl ?_
      refine x_put (c := 2) (i := 0) (k := 2) hE (fun _ _ => rfl) dX9_image_52 fp_RX9_312 (Nat.le_of_ble_eq_true rfl) rfl rfl (fun _ => Nat.le_of_ble_eq_true rfl) (fun _ _ => rfl) ?_
      refine r_aload_n dX9_image_55 rfl ?_
      refine x_get (c := 9) hE (fun _ _ => rfl) dX9_image_56 fl_RX9_63 (Nat.le_of_ble_eq_true rfl) rfl ?_
      refine x_get (c := 2) hE (fun _ _ => rfl) dX9_image_59 fl_RX9_314 (Nat.le_of_ble_eq_true rfl) rfl ?_
      refine r_aload_n dX9_image_62 rfl ?_
      refine x_get (c := 9) hE (fun _ _ => rfl) dX9_image_63 fl_RX9_30 (Nat.le_of_ble_eq_true rfl) rfl ?_
      refine x_callV0 (c := 0) (i := 1) hE (fun _ _ => rfl) (Nat.le_of_ble_eq_true rfl) dX9_image_66 mf_X0_become ml_RX9_315 (ok_X0_become (d := d - 1) hE hX (by omega) _ _ _ (Nat.le_of_ble_eq_true rfl) (Nat.le_of_ble_eq_true rfl)) rfl rfl rfl rfl (Nat.le_of_ble_eq_true rfl) (by omega) ?_
      refine r_aload_n dX9_image_69 rfl ?_
      refine x_get (c := 9) hE (fun _ _ => rfl) dX9_image_70 fl_RX9_63 (Nat.le_of_ble_eq_true rfl) rfl ?_
      refine r_aload_n dX9_image_73 rfl ?_
      refine x_getI (c := 9) (x := ((f_X0_become S (xp σ 2 0 2 (σ.1 9 0 1)) 1 0).1 9 0 6)) hE (fun _ _ => rfl) (fun _ => rfl) dX9_image_74 fl_RX9_213 (Nat.le_of_ble_eq_true rfl) rfl ?_
      refine x_put (c := 2) (i := 0) (k := 3) hE (fun _ _ => rfl) dX9_image_77 fp_RX9_319 (Nat.le_of_ble_eq_true rfl) rfl rfl (fun _ => Nat.le_of_ble_eq_true rfl) (fun _ _ => rfl) ?_
      refine r_aload_n dX9_image_80 rfl ?_
      refine x_get (c := 9) hE (fun _ _ => rfl) dX9_image_81 fl_RX9_63 (Nat.le_of_ble_eq_true rfl) rfl ?_
      refine r_aload_n dX9_image_84 rfl ?_
      refine x_get (c := 9) hE (fun _ _ => rfl) dX9_image_85 fl_RX9_37 (Nat.le_of_ble_eq_true rfl) rfl ?_
      refine x_getI (c := 3) (x := ((f_X0_become S (xp σ 2 0 2 (σ.1 9 0 1)) 1 0).1 3 0 5)) hE (fun _ _ => rfl) (fun _ => rfl) dX9_image_88 fl_RX9_199 (Nat.le_of_ble_eq_true rfl) (Eq.trans (xp_o (fun z => absurd z.1 (by decide))) rfl) ?_
      refine x_put (c := 2) (i := 0) (k := 4) hE (fun _ _ => rfl) dX9_image_91 fp_RX9_322 (Nat.le_of_ble_eq_true rfl) rfl rfl (fun _ => Nat.le_of_ble_eq_true rfl) (fun _ _ => rfl) ?_
      refine r_aload_n dX9_image_94 rfl ?_
      refine x_get (c := 9) hE (fun _ _ => rfl) dX9_image_95 fl_RX9_63 (Nat.le_of_ble_eq_true rfl) rfl ?_
      refine x_getI (c := 2) (x := ((f_X0_become S (xp σ 2 0 2 (σ.1 9 0 1)) 1 0).1 3 0 5)) hE (fun _ _ => rfl) (fun _ => rfl) dX9_image_98 fl_RX9_322 (Nat.le_of_ble_eq_true rfl) (xp_s _ _ _ _ _) ?_
      refine r_iret dX9_image_101 rfl rfl ?_
      exact ⟨_, rfl, by rw [f_X9_image_L2, if_pos c1] at hK; exact hK⟩
    · refine r_aload_n dX9_image_10 rfl ?_
      refine x_get (c := 9) hE (fun _ _ => rfl) dX9_image_11 fl_RX9_11 (Nat.le_of_ble_eq_true rfl) rfl ?_
      refine r_iload_n dX9_image_14 rfl ?_
      refine x_aald (c := 10) (c2 := 8) (t0 := 3) (n0 := S 0 0) hE (fun _ _ => rfl) (Nat.le_of_ble_eq_true rfl) rfl dX9_image_15 (by exact (i0.wUp i1 (by with_reducible assumption)).2.1) (by exact (i0.wUp i1 (by with_reducible assumption)).1) ?_
      refine r_astore_n dX9_image_16 (by decide) ?_
      refine r_aload_n dX9_image_17 rfl ?_
      refine x_get (c := 9) hE (fun _ _ => rfl) dX9_image_18 fl_RX9_63 (Nat.le_of_ble_eq_true rfl) rfl ?_
      refine x_get (c := 2) hE (fun _ _ => rfl) dX9_image_21 fl_RX9_310 (Nat.le_of_ble_eq_true rfl) rfl ?_
      refine r_iload_n dX9_image_24 rfl ?_
      refine r_aload_n dX9_image_25 rfl ?_
      refine r_ifnonnull (tgt := 33) dX9_image_26 (by decide) ?_
      refine r_aload_n dX9_image_33 rfl ?_
      refine x_getI (c := 8) (x := (σ.1 8 (Int32.toNatClampNeg l1) 5)) hE (fun _ _ => rfl) (fun _ => rfl) dX9_image_34 fl_RX9_125 (by first | with_reducible assumption | exact (i0.wUp i1 (by with_reducible assumption)).1) rfl ?_
      refine x_iast (c := 31) (i := 0) (N := 8) hE (fun _ _ => rfl) dX9_image_37 (Nat.le_of_ble_eq_true rfl) (by exact (i0.wUp i1 (by with_reducible assumption)).2.1) ?_
      refine r_iinc2 (w := (1 : Int32)) dX9_image_38 rfl (by decide) (by decide) ?_
      refine r_goto (tgt := 2) dX9_image_41 (by decide) ?_
      refine r_loc (L' := [(0, .ref (am 9 0)), (1, .int (l1 + (1 : Int32)))]) [2, 0] rfl ?_
      exact ih (xa σ 31 0 (Int32.toNatClampNeg l1) (σ.1 8 (Int32.toNatClampNeg l1) 5))  (l1 + (1 : Int32)) (by exact i0.xa (by decide)) (by exact (i0.wUp i1 (by with_reducible assumption)).2.2.1) (by have u := (i0.wUp i1 (by with_reducible assumption)).2.2.2; omega) (by rw [f_X9_image_L2, if_neg c1] at hK; exact hK)
def f_X9_image (S : XSh) (σ : XSt)  : Int32 × XSt := (f_X9_image_L2 (10) S σ (0 : Int32))
set_option maxRecDepth 100000 in
set_option maxHeartbeats 1000000 in
theorem ok_X9_image {g : GC} {B : hH} {am : XAd} {S : XSh} {d : Nat} (hE : XOk am S) (hX : GX g) (hd : 2 ≤ d) (σ : XSt)  (h0 : XInv S σ) : XC g B am S d yX9_image cX9_image 3 (some FieldType.int) [.ref (am 9 0)] (fun v σ' => v = some (.int (f_X9_image S σ).1) ∧ σ' = (f_X9_image S σ).2) σ := by
  refine AM.of2 (own := RX9) (nm := "image") (L0 := [(0, .ref (am 9 0))]) (by decide) rfl rfl (Nat.le_of_ble_eq_true rfl) rfl ?_
  refine r_iconst (v := (0 : Int32)) dX9_image_0 (by decide) ?_
  refine r_istore_n dX9_image_1 (by decide) ?_
  refine r_loc (L' := [(0, .ref (am 9 0)), (1, .int (0 : Int32))]) [1, 0] rfl ?_
  exact lp_X9_image_2 hE hX (by omega) (10) σ (0 : Int32) (by exact h0) (by exact Ct.zero _) (by omega) ⟨by rw [f_X9_image], by rw [f_X9_image]⟩

def f_X9_back_L16 : Nat → XSh → XSt → Int32 → Int32 × XSt
  | 0, _, σ, _ => (0, σ)
  | n + 1, S, σ, l1 => (if (σ.1 2 0 2) ≤ l1 then (((f_X9_passOnAgain S (xp (xp (f_X0_become S σ 0 1) 9 0 6 ((f_X0_become S σ 0 1).1 2 0 3)) 3 0 5 ((f_X0_become S σ 0 1).1 2 0 4))).1 3 0 5), (f_X9_passOnAgain S (xp (xp (f_X0_become S σ 0 1) 9 0 6 ((f_X0_become S σ 0 1).1 2 0 3)) 3 0 5 ((f_X0_become S σ 0 1).1 2 0 4)))) else (f_X9_back_L16 n S (xp σ 8 (Int32.toNatClampNeg l1) 5 (σ.2 31 0 (Int32.toNatClampNeg l1))) (l1 + (1 : Int32))))
set_option maxRecDepth 100000 in
set_option maxHeartbeats 1000000 in
theorem lp_X9_back_16 {g : GC} {B : hH} {am : XAd} {S : XSh} {d : Nat} {K : Option Value → XSt → Prop} (hE : XOk am S) (hX : GX g) (hd : 3 ≤ d) : ∀ (fuel : Nat) (σ : XSt) (l1 : Int32), XInv S σ → Ct l1 8 → ¬ σ.1 2 0 4 = -1 → 9 - l1.toNatClampNeg < fuel → K (some (.int (f_X9_back_L16 fuel S σ l1).1)) (f_X9_back_L16 fuel S σ l1).2 → XW g B am S RX9 cX9_back 3 (some FieldType.int) "back" d K 16 [(0, .ref (am 9 0)), (1, .int l1)] [] σ := by
  intro fuel
  induction fuel with
  | zero => intro σ l1 i0 i1 i2 hm hK; exact absurd hm (Nat.not_lt_zero _)
  | succ n ih =>
    intro σ l1 i0 i1 i2 hm hK
    refine r_iload_n dX9_back_16 rfl ?_
    refine r_aload_n dX9_back_17 rfl ?_
    refine x_get (c := 9) hE (fun _ _ => rfl) dX9_back_18 fl_RX9_63 (Nat.le_of_ble_eq_true rfl) rfl ?_
    refine x_getI (c := 2) (x := (σ.1 2 0 2)) hE (fun _ _ => rfl) (fun _ => rfl) dX9_back_21 fl_RX9_312 (Nat.le_of_ble_eq_true rfl) rfl ?_
    refine r_icmp_ge (tgt := 57) dX9_back_24 (by decide) (fun c2 => ?_) (fun c2 => ?_)
    · refine r_aload_n dX9_back_57 rfl ?_
      refine x_get (c := 9) hE (fun _ _ => rfl) dX9_back_58 fl_RX9_30 (Nat.le_of_ble_eq_true rfl) rfl ?_
      refine r_aload_n dX9_back_61 rfl ?_
      refine x_get (c := 9) hE (fun _ _ => rfl) dX9_back_62 fl_RX9_63 (Nat.le_of_ble_eq_true rfl) rfl ?_
      refine x_get (c := 2) hE (fun _ _ => rfl) dX9_back_65 fl_RX9_314 (Nat.le_of_ble_eq_true rfl) rfl ?_
      refine x_callV0 (c := 0) (i := 0) hE (fun _ _ => rfl) (Nat.le_of_ble_eq_true rfl) dX9_back_68 mf_X0_become ml_RX9_315 (ok_X0_become (d := d - 1) hE hX (by omega) _ _ _ (Nat.le_of_ble_eq_true rfl) (Nat.le_of_ble_eq_true rfl)) rfl rfl rfl rfl (Nat.le_of_ble_eq_true rfl) (by omega) ?_
      refine r_aload_n dX9_back_71 rfl ?_
      refine r_aload_n dX9_back_72 rfl ?_
      refine x_get (c := 9) hE (fun _ _ => rfl) dX9_back_73 fl_RX9_63 (Nat.le_of_ble_eq_true rfl) rfl ?_
      refine x_getI (c := 2) (x := ((f_X0_become S σ 0 1).1 2 0 3)) hE (fun _ _ => rfl) (fun _ => rfl) dX9_back_76 fl_RX9_319 (Nat.le_of_ble_eq_true rfl) rfl ?_
      refine x_put (c := 9) (i := 0) (k := 6) hE (fun _ _ => rfl) dX9_back_79 fp_RX9_213 (Nat.le_of_ble_eq_true rfl) rfl rfl (fun _ => Nat.le_of_ble_eq_true rfl) (fun _ _ => rfl) ?_
      refine r_aload_n dX9_back_82 rfl ?_
      refine x_get (c := 9) hE (fun _ _ => rfl) dX9_back_83 fl_RX9_37 (Nat.le_of_ble_eq_true rfl) rfl ?_
      refine r_aload_n dX9_back_86 rfl ?_
      refine x_get (c := 9) hE (fun _ _ => rfl) dX9_back_87 fl_RX9_63 (Nat.le_of_ble_eq_true rfl) rfl ?_
      refine x_getI (c := 2) (x := ((f_X0_become S σ 0 1).1 2 0 4)) hE (fun _ _ => rfl) (fun _ => rfl) dX9_back_90 fl_RX9_322 (Nat.le_of_ble_eq_true rfl) (Eq.trans (xp_o (fun z => absurd z.1 (by decide))) rfl) ?_
      refine x_put (c := 3) (i := 0) (k := 5) hE (fun _ _ => rfl) dX9_back_93 fp_RX9_199 (Nat.le_of_ble_eq_true rfl) rfl rfl (fun _ => Nat.le_of_ble_eq_true rfl) (fun _ _ => rfl) ?_
      refine r_aload_n dX9_back_96 rfl ?_
      refine x_callV0 (c := 9) (i := 0) hE (fun _ _ => rfl) (Nat.le_of_ble_eq_true rfl) dX9_back_97 mf_X9_passOnAgain ml_RX9_325 (ok_X9_passOnAgain (d := d - 1) hE hX (by omega) _ (by exact i0.bk i2)) rfl rfl rfl rfl (Nat.le_of_ble_eq_true rfl) (by omega) ?_
      refine r_aload_n dX9_back_100 rfl ?_
      refine x_get (c := 9) hE (fun _ _ => rfl) dX9_back_101 fl_RX9_37 (Nat.le_of_ble_eq_true rfl) rfl ?_
      refine x_getI (c := 3) (x := ((f_X9_passOnAgain S (xp (xp (f_X0_become S σ 0 1) 9 0 6 ((f_X0_become S σ 0 1).1 2 0 3)) 3 0 5 ((f_X0_become S σ 0 1).1 2 0 4))).1 3 0 5)) hE (fun _ _ => rfl) (fun _ => rfl) dX9_back_104 fl_RX9_199 (Nat.le_of_ble_eq_true rfl) rfl ?_
      refine r_iret dX9_back_107 rfl rfl ?_
      exact ⟨_, rfl, by rw [f_X9_back_L16, if_pos c2] at hK; exact hK⟩
    · refine r_aload_n dX9_back_27 rfl ?_
      refine x_get (c := 9) hE (fun _ _ => rfl) dX9_back_28 fl_RX9_11 (Nat.le_of_ble_eq_true rfl) rfl ?_
      refine r_iload_n dX9_back_31 rfl ?_
      refine x_aald (c := 10) (c2 := 8) (t0 := 3) (n0 := S 0 0) hE (fun _ _ => rfl) (Nat.le_of_ble_eq_true rfl) rfl dX9_back_32 (by exact (i0.kUp i1 (by with_reducible assumption)).2.1) (by exact (i0.kUp i1 (by with_reducible assumption)).1) ?_
      refine r_astore_n dX9_back_33 (by decide) ?_
      refine r_aload_n dX9_back_34 rfl ?_
      refine r_ifnull dX9_back_35 ?_
      refine r_aload_n dX9_back_38 rfl ?_
      refine r_aload_n dX9_back_39 rfl ?_
      refine x_get (c := 9) hE (fun _ _ => rfl) dX9_back_40 fl_RX9_63 (Nat.le_of_ble_eq_true rfl) rfl ?_
      refine x_get (c := 2) hE (fun _ _ => rfl) dX9_back_43 fl_RX9_310 (Nat.le_of_ble_eq_true rfl) rfl ?_
      refine r_iload_n dX9_back_46 rfl ?_
      refine x_ialdV (c := 31) (i := 0) (N := 8) (x := (σ.2 31 0 (Int32.toNatClampNeg l1))) hE (fun _ _ => rfl) dX9_back_47 (Nat.le_of_ble_eq_true rfl) (by exact (i0.kUp i1 (by with_reducible assumption)).2.1) rfl ?_
      refine x_put (c := 8) (i := (Int32.toNatClampNeg l1)) (k := 5) hE (fun _ _ => rfl) dX9_back_48 fp_RX9_125 (by first | with_reducible assumption | exact (i0.kUp i1 (by with_reducible assumption)).1) rfl rfl (fun _ => Nat.le_of_ble_eq_true rfl) (fun _ _ => rfl) ?_
      refine r_iinc2 (w := (1 : Int32)) dX9_back_51 rfl (by decide) (by decide) ?_
      refine r_goto (tgt := 16) dX9_back_54 (by decide) ?_
      refine r_loc (L' := [(0, .ref (am 9 0)), (1, .int (l1 + (1 : Int32)))]) [2, 0] rfl ?_
      exact ih (xp σ 8 (Int32.toNatClampNeg l1) 5 (σ.2 31 0 (Int32.toNatClampNeg l1)))  (l1 + (1 : Int32)) (by exact i0.c8) (by exact (i0.kUp i1 (by with_reducible assumption)).2.2.1) (by exact i2) (by have u := (i0.kUp i1 (by with_reducible assumption)).2.2.2; omega) (by rw [f_X9_back_L16, if_neg c2] at hK; exact hK)
def f_X9_back (S : XSh) (σ : XSt)  : Int32 × XSt := (if (σ.1 2 0 4) = (-1 : Int32) then ((-3 : Int32), σ) else (f_X9_back_L16 (10) S σ (0 : Int32)))
set_option maxRecDepth 100000 in
set_option maxHeartbeats 1000000 in
theorem ok_X9_back {g : GC} {B : hH} {am : XAd} {S : XSh} {d : Nat} (hE : XOk am S) (hX : GX g) (hd : 3 ≤ d) (σ : XSt)  (h0 : XInv S σ) : XC g B am S d yX9_back cX9_back 3 (some FieldType.int) [.ref (am 9 0)] (fun v σ' => v = some (.int (f_X9_back S σ).1) ∧ σ' = (f_X9_back S σ).2) σ := by
  refine AM.of2 (own := RX9) (nm := "back") (L0 := [(0, .ref (am 9 0))]) (by decide) rfl rfl (Nat.le_of_ble_eq_true rfl) rfl ?_
  refine r_aload_n dX9_back_0 rfl ?_
  refine x_get (c := 9) hE (fun _ _ => rfl) dX9_back_1 fl_RX9_63 (Nat.le_of_ble_eq_true rfl) rfl ?_
  refine x_getI (c := 2) (x := (σ.1 2 0 4)) hE (fun _ _ => rfl) (fun _ => rfl) dX9_back_4 fl_RX9_322 (Nat.le_of_ble_eq_true rfl) rfl ?_
  refine r_iconst (v := (-1 : Int32)) dX9_back_7 (by decide) ?_
  refine r_icmp_ne (tgt := 14) dX9_back_8 (by decide) (fun c1 => ?_) (fun c1 => ?_)
  · refine r_iconst (v := (0 : Int32)) dX9_back_14 (by decide) ?_
    refine r_istore_n dX9_back_15 (by decide) ?_
    refine r_loc (L' := [(0, .ref (am 9 0)), (1, .int (0 : Int32))]) [1, 0] rfl ?_
    exact lp_X9_back_16 hE hX (by omega) (10) σ (0 : Int32) (by exact h0) (by exact Ct.zero _) (by with_reducible assumption) (by omega) ⟨by rw [f_X9_back, if_neg c1], by rw [f_X9_back, if_neg c1]⟩
  · refine r_bipush (v := (-3 : Int32)) dX9_back_11 (by decide) ?_
    refine r_iret dX9_back_13 rfl rfl ?_
    exact ⟨_, rfl, by rw [f_X9_back, if_pos c1], by rw [f_X9_back, if_pos c1]⟩

def f_X9_count (S : XSh) (σ : XSt) (p1 : Int32) : Int32 := (if p1 = (0 : Int32) then (σ.1 9 0 1) else if p1 = (1 : Int32) then (σ.1 9 0 3) else if p1 = (2 : Int32) then (σ.1 3 0 5) else if p1 = (3 : Int32) then (σ.1 9 0 5) else if p1 = (4 : Int32) then (σ.1 4 0 2) else if p1 = (5 : Int32) then (σ.1 9 0 6) else if p1 = (6 : Int32) then (f_X9_barredBottles S σ) else if p1 = (7 : Int32) then (f_X9_soldBottles S σ) else (-2 : Int32))
set_option maxRecDepth 100000 in
set_option maxHeartbeats 1000000 in
theorem ok_X9_count {g : GC} {B : hH} {am : XAd} {S : XSh} {d : Nat} (hE : XOk am S) (hX : GX g) (hd : 5 ≤ d) (σ : XSt) (p1 : Int32) (h0 : XInv S σ) : XC g B am S d yX9_count cX9_count 2 (some FieldType.int) [.ref (am 9 0), .int p1] (fun v σ' => v = some (.int (f_X9_count S σ p1)) ∧ σ' = σ) σ := by
  refine AM.of2 (own := RX9) (nm := "count") (L0 := [(0, .ref (am 9 0)), (1, .int p1)]) (by decide) rfl rfl (Nat.le_of_ble_eq_true rfl) rfl ?_
  refine r_iload_n dX9_count_0 rfl ?_
  by_cases c1 : p1 = (0 : Int32)
  · refine r_tabK (tgt := 48) dX9_count_1 c1 (by decide) (by decide) rfl (by decide) ?_
    refine r_aload_n dX9_count_48 rfl ?_
    refine x_getI (c := 9) (x := (σ.1 9 0 1)) hE (fun _ _ => rfl) (fun _ => rfl) dX9_count_49 fl_RX9_115 (Nat.le_of_ble_eq_true rfl) rfl ?_
    refine r_iret dX9_count_52 rfl rfl ?_
    exact ⟨_, rfl, by rw [f_X9_count, if_pos c1], rfl⟩
  by_cases c2 : p1 = (1 : Int32)
  · refine r_tabK (tgt := 53) dX9_count_1 c2 (by decide) (by decide) rfl (by decide) ?_
    refine r_aload_n dX9_count_53 rfl ?_
    refine x_getI (c := 9) (x := (σ.1 9 0 3)) hE (fun _ _ => rfl) (fun _ => rfl) dX9_count_54 fl_RX9_142 (Nat.le_of_ble_eq_true rfl) rfl ?_
    refine r_iret dX9_count_57 rfl rfl ?_
    exact ⟨_, rfl, by rw [f_X9_count, if_neg c1, if_pos c2], rfl⟩
  by_cases c3 : p1 = (2 : Int32)
  · refine r_tabK (tgt := 58) dX9_count_1 c3 (by decide) (by decide) rfl (by decide) ?_
    refine r_aload_n dX9_count_58 rfl ?_
    refine x_get (c := 9) hE (fun _ _ => rfl) dX9_count_59 fl_RX9_37 (Nat.le_of_ble_eq_true rfl) rfl ?_
    refine x_getI (c := 3) (x := (σ.1 3 0 5)) hE (fun _ _ => rfl) (fun _ => rfl) dX9_count_62 fl_RX9_199 (Nat.le_of_ble_eq_true rfl) rfl ?_
    refine r_iret dX9_count_65 rfl rfl ?_
    exact ⟨_, rfl, by rw [f_X9_count, if_neg c1, if_neg c2, if_pos c3], rfl⟩
  by_cases c4 : p1 = (3 : Int32)
  · refine r_tabK (tgt := 66) dX9_count_1 c4 (by decide) (by decide) rfl (by decide) ?_
    refine r_aload_n dX9_count_66 rfl ?_
    refine x_getI (c := 9) (x := (σ.1 9 0 5)) hE (fun _ _ => rfl) (fun _ => rfl) dX9_count_67 fl_RX9_102 (Nat.le_of_ble_eq_true rfl) rfl ?_
    refine r_iret dX9_count_70 rfl rfl ?_
    exact ⟨_, rfl, by rw [f_X9_count, if_neg c1, if_neg c2, if_neg c3, if_pos c4], rfl⟩
  by_cases c5 : p1 = (4 : Int32)
  · refine r_tabK (tgt := 71) dX9_count_1 c5 (by decide) (by decide) rfl (by decide) ?_
    refine r_aload_n dX9_count_71 rfl ?_
    refine x_get (c := 9) hE (fun _ _ => rfl) dX9_count_72 fl_RX9_44 (Nat.le_of_ble_eq_true rfl) rfl ?_
    refine x_getI (c := 4) (x := (σ.1 4 0 2)) hE (fun _ _ => rfl) (fun _ => rfl) dX9_count_75 fl_RX9_209 (Nat.le_of_ble_eq_true rfl) rfl ?_
    refine r_iret dX9_count_78 rfl rfl ?_
    exact ⟨_, rfl, by rw [f_X9_count, if_neg c1, if_neg c2, if_neg c3, if_neg c4, if_pos c5], rfl⟩
  by_cases c6 : p1 = (5 : Int32)
  · refine r_tabK (tgt := 79) dX9_count_1 c6 (by decide) (by decide) rfl (by decide) ?_
    refine r_aload_n dX9_count_79 rfl ?_
    refine x_getI (c := 9) (x := (σ.1 9 0 6)) hE (fun _ _ => rfl) (fun _ => rfl) dX9_count_80 fl_RX9_213 (Nat.le_of_ble_eq_true rfl) rfl ?_
    refine r_iret dX9_count_83 rfl rfl ?_
    exact ⟨_, rfl, by rw [f_X9_count, if_neg c1, if_neg c2, if_neg c3, if_neg c4, if_neg c5, if_pos c6], rfl⟩
  by_cases c7 : p1 = (6 : Int32)
  · refine r_tabK (tgt := 84) dX9_count_1 c7 (by decide) (by decide) rfl (by decide) ?_
    refine r_aload_n dX9_count_84 rfl ?_
    refine x_callW (c := 9) (i := 0) hE (fun _ _ => rfl) (Nat.le_of_ble_eq_true rfl) dX9_count_85 mf_X9_barredBottles ml_RX9_328 (ok_X9_barredBottles (d := d - 1) hE hX (by omega) _ (by with_reducible assumption)) rfl rfl rfl rfl (Nat.le_of_ble_eq_true rfl) (by omega) ?_
    refine r_iret dX9_count_88 rfl rfl ?_
    exact ⟨_, rfl, by rw [f_X9_count, if_neg c1, if_neg c2, if_neg c3, if_neg c4, if_neg c5, if_neg c6, if_pos c7], rfl⟩
  by_cases c8 : p1 = (7 : Int32)
  · refine r_tabK (tgt := 89) dX9_count_1 c8 (by decide) (by decide) rfl (by decide) ?_
    refine r_aload_n dX9_count_89 rfl ?_
    refine x_callW (c := 9) (i := 0) hE (fun _ _ => rfl) (Nat.le_of_ble_eq_true rfl) dX9_count_90 mf_X9_soldBottles ml_RX9_331 (ok_X9_soldBottles (d := d - 1) hE hX (by omega) _ (by with_reducible assumption)) rfl rfl rfl rfl (Nat.le_of_ble_eq_true rfl) (by omega) ?_
    refine r_iret dX9_count_93 rfl rfl ?_
    exact ⟨_, rfl, by rw [f_X9_count, if_neg c1, if_neg c2, if_neg c3, if_neg c4, if_neg c5, if_neg c6, if_neg c7, if_pos c8], rfl⟩
  refine r_tabOut (tgt := 94) dX9_count_1 (by have e0 : (p1).toInt ≠ 0 := ne_toInt c1; have e1 : (p1).toInt ≠ 1 := ne_toInt c2; have e2 : (p1).toInt ≠ 2 := ne_toInt c3; have e3 : (p1).toInt ≠ 3 := ne_toInt c4; have e4 : (p1).toInt ≠ 4 := ne_toInt c5; have e5 : (p1).toInt ≠ 5 := ne_toInt c6; have e6 : (p1).toInt ≠ 6 := ne_toInt c7; have e7 : (p1).toInt ≠ 7 := ne_toInt c8; omega) (by decide) ?_
  refine r_bipush (v := (-2 : Int32)) dX9_count_94 (by decide) ?_
  refine r_iret dX9_count_96 rfl rfl ?_
  exact ⟨_, rfl, by rw [f_X9_count, if_neg c1, if_neg c2, if_neg c3, if_neg c4, if_neg c5, if_neg c6, if_neg c7, if_neg c8], rfl⟩

def f_X9_sheet (S : XSh) (σ : XSt) (p1 : Int32) (p2 : Int32) (p3 : Int32) : Int32 × XSt := (if (f_X9_sheetAt S σ p1) = 0 then ((-2 : Int32), σ) else (if p2 < (-1 : Int32) then ((-2 : Int32), σ) else (if (2 : Int32) < p2 then ((-2 : Int32), σ) else (if p2 = (-1 : Int32) then (if p2 = (-1 : Int32) then (if p2 = (-1 : Int32) then ((1 : Int32), (f_X6_become S σ (Int32.toNatClampNeg p1) p2 (0 : Int32))) else ((1 : Int32), (f_X6_become S σ (Int32.toNatClampNeg p1) p2 p3))) else (if 0 ≤ p3 then (if p2 = (-1 : Int32) then ((1 : Int32), (f_X6_become S σ (Int32.toNatClampNeg p1) p2 (0 : Int32))) else ((1 : Int32), (f_X6_become S σ (Int32.toNatClampNeg p1) p2 p3))) else ((-14 : Int32), σ))) else (if p3 ≤ (40 : Int32) then (if p2 = (-1 : Int32) then (if p2 = (-1 : Int32) then ((1 : Int32), (f_X6_become S σ (Int32.toNatClampNeg p1) p2 (0 : Int32))) else ((1 : Int32), (f_X6_become S σ (Int32.toNatClampNeg p1) p2 p3))) else (if 0 ≤ p3 then (if p2 = (-1 : Int32) then ((1 : Int32), (f_X6_become S σ (Int32.toNatClampNeg p1) p2 (0 : Int32))) else ((1 : Int32), (f_X6_become S σ (Int32.toNatClampNeg p1) p2 p3))) else ((-14 : Int32), σ))) else ((-2 : Int32), σ))))))
set_option maxRecDepth 100000 in
set_option maxHeartbeats 1000000 in
theorem ok_X9_sheet {g : GC} {B : hH} {am : XAd} {S : XSh} {d : Nat} (hE : XOk am S) (hX : GX g) (hd : 2 ≤ d) (σ : XSt) (p1 : Int32) (p2 : Int32) (p3 : Int32)  : XC g B am S d yX9_sheet cX9_sheet 5 (some FieldType.int) [.ref (am 9 0), .int p1, .int p2, .int p3] (fun v σ' => v = some (.int (f_X9_sheet S σ p1 p2 p3).1) ∧ σ' = (f_X9_sheet S σ p1 p2 p3).2) σ := by
  refine AM.of2 (own := RX9) (nm := "sheet") (L0 := [(0, .ref (am 9 0)), (1, .int p1), (2, .int p2), (3, .int p3)]) (by decide) rfl rfl (Nat.le_of_ble_eq_true rfl) rfl ?_
  refine r_aload_n dX9_sheet_0 rfl ?_
  refine r_iload_n dX9_sheet_1 rfl ?_
  by_cases c1 : (f_X9_sheetAt S σ p1) = 0
  · refine x_callW (c := 9) (i := 0) hE (fun _ _ => rfl) (Nat.le_of_ble_eq_true rfl) dX9_sheet_2 mf_X9_sheetAt ml_RX9_334 (ok_X9_sheetAt (d := d - 1) hE hX (by omega) _ _) rfl rfl rfl rfl (Nat.le_of_ble_eq_true rfl) (by omega) ?_
    rw [if_pos c1]
    refine r_astoreN dX9_sheet_5 (by decide) ?_
    refine r_aloadN dX9_sheet_7 rfl ?_
    refine r_ifnullN (tgt := 33) dX9_sheet_9 (by decide) ?_
    refine r_bipush (v := (-2 : Int32)) dX9_sheet_33 (by decide) ?_
    refine r_iret dX9_sheet_35 rfl rfl ?_
    exact ⟨_, rfl, by rw [f_X9_sheet, if_pos c1], by rw [f_X9_sheet, if_pos c1]⟩
  · refine x_callW (c := 9) (i := 0) hE (fun _ _ => rfl) (Nat.le_of_ble_eq_true rfl) dX9_sheet_2 mf_X9_sheetAt ml_RX9_334 (ok_X9_sheetAt (d := d - 1) hE hX (by omega) _ _) rfl rfl rfl rfl (Nat.le_of_ble_eq_true rfl) (by omega) ?_
    rw [if_neg c1]
    have lc1 := lv_X9_sheetAt c1
    refine r_astore dX9_sheet_5 (by decide) ?_
    refine r_aload dX9_sheet_7 rfl ?_
    refine r_ifnull dX9_sheet_9 ?_
    refine r_iload_n dX9_sheet_12 rfl ?_
    refine r_iconst (v := (-1 : Int32)) dX9_sheet_13 (by decide) ?_
    refine r_icmp_lt (tgt := 33) dX9_sheet_14 (by decide) (fun c2 => ?_) (fun c2 => ?_)
    · refine r_bipush (v := (-2 : Int32)) dX9_sheet_33 (by decide) ?_
      refine r_iret dX9_sheet_35 rfl rfl ?_
      exact ⟨_, rfl, by rw [f_X9_sheet, if_neg c1, if_pos c2], by rw [f_X9_sheet, if_neg c1, if_pos c2]⟩
    · refine r_iload_n dX9_sheet_17 rfl ?_
      refine r_iconst (v := (2 : Int32)) dX9_sheet_18 (by decide) ?_
      refine r_icmp_gt (tgt := 33) dX9_sheet_19 (by decide) (fun c3 => ?_) (fun c3 => ?_)
      · refine r_bipush (v := (-2 : Int32)) dX9_sheet_33 (by decide) ?_
        refine r_iret dX9_sheet_35 rfl rfl ?_
        exact ⟨_, rfl, by rw [f_X9_sheet, if_neg c1, if_neg c2, if_pos c3], by rw [f_X9_sheet, if_neg c1, if_neg c2, if_pos c3]⟩
      · refine r_iload_n dX9_sheet_22 rfl ?_
        refine r_iconst (v := (-1 : Int32)) dX9_sheet_23 (by decide) ?_
        refine r_icmp_eq (tgt := 36) dX9_sheet_24 (by decide) (fun c4 => ?_) (fun c4 => ?_)
        · refine r_iload_n dX9_sheet_36 rfl ?_
          refine r_iconst (v := (-1 : Int32)) dX9_sheet_37 (by decide) ?_
          refine r_icmp_eq (tgt := 48) dX9_sheet_38 (by decide) (fun c5 => ?_) (fun c5 => ?_)
          · refine r_aload dX9_sheet_48 rfl ?_
            refine r_iload_n dX9_sheet_50 rfl ?_
            refine r_iload_n dX9_sheet_51 rfl ?_
            refine r_iconst (v := (-1 : Int32)) dX9_sheet_52 (by decide) ?_
            refine r_icmp_ne (tgt := 60) dX9_sheet_53 (by decide) (fun c6 => ?_) (fun c6 => ?_)
            · refine r_iload_n dX9_sheet_60 rfl ?_
              refine x_callV0 (c := 6) (i := (Int32.toNatClampNeg p1)) hE (fun _ _ => rfl) (by with_reducible assumption) dX9_sheet_61 mf_X6_become ml_RX9_338 (ok_X6_become (d := d - 1) hE hX (by omega) _ _ _ _ (by with_reducible assumption)) rfl rfl rfl rfl (Nat.le_of_ble_eq_true rfl) (by omega) ?_
              refine r_iconst (v := (1 : Int32)) dX9_sheet_64 (by decide) ?_
              refine r_iret dX9_sheet_65 rfl rfl ?_
              exact ⟨_, rfl, by rw [f_X9_sheet, if_neg c1, if_neg c2, if_neg c3, if_pos c4, if_pos c5, if_neg c6], by rw [f_X9_sheet, if_neg c1, if_neg c2, if_neg c3, if_pos c4, if_pos c5, if_neg c6]⟩
            · refine r_iconst (v := (0 : Int32)) dX9_sheet_56 (by decide) ?_
              refine r_goto (tgt := 61) dX9_sheet_57 (by decide) ?_
              refine x_callV0 (c := 6) (i := (Int32.toNatClampNeg p1)) hE (fun _ _ => rfl) (by with_reducible assumption) dX9_sheet_61 mf_X6_become ml_RX9_338 (ok_X6_become (d := d - 1) hE hX (by omega) _ _ _ _ (by with_reducible assumption)) rfl rfl rfl rfl (Nat.le_of_ble_eq_true rfl) (by omega) ?_
              refine r_iconst (v := (1 : Int32)) dX9_sheet_64 (by decide) ?_
              refine r_iret dX9_sheet_65 rfl rfl ?_
              exact ⟨_, rfl, by rw [f_X9_sheet, if_neg c1, if_neg c2, if_neg c3, if_pos c4, if_pos c5, if_pos c6], by rw [f_X9_sheet, if_neg c1, if_neg c2, if_neg c3, if_pos c4, if_pos c5, if_pos c6]⟩
          · refine r_iload_n dX9_sheet_41 rfl ?_
            refine r_if_ge (tgt := 48) dX9_sheet_42 (by decide) (fun c7 => ?_) (fun c7 => ?_)
            · refine r_aload dX9_sheet_48 rfl ?_
              refine r_iload_n dX9_sheet_50 rfl ?_
              refine r_iload_n dX9_sheet_51 rfl ?_
              refine r_iconst (v := (-1 : Int32)) dX9_sheet_52 (by decide) ?_
              refine r_icmp_ne (tgt := 60) dX9_sheet_53 (by decide) (fun c8 => ?_) (fun c8 => ?_)
              · refine r_iload_n dX9_sheet_60 rfl ?_
                refine x_callV0 (c := 6) (i := (Int32.toNatClampNeg p1)) hE (fun _ _ => rfl) (by with_reducible assumption) dX9_sheet_61 mf_X6_become ml_RX9_338 (ok_X6_become (d := d - 1) hE hX (by omega) _ _ _ _ (by with_reducible assumption)) rfl rfl rfl rfl (Nat.le_of_ble_eq_true rfl) (by omega) ?_
                refine r_iconst (v := (1 : Int32)) dX9_sheet_64 (by decide) ?_
                refine r_iret dX9_sheet_65 rfl rfl ?_
                exact ⟨_, rfl, by rw [f_X9_sheet, if_neg c1, if_neg c2, if_neg c3, if_pos c4, if_neg c5, if_pos c7, if_neg c8], by rw [f_X9_sheet, if_neg c1, if_neg c2, if_neg c3, if_pos c4, if_neg c5, if_pos c7, if_neg c8]⟩
              · refine r_iconst (v := (0 : Int32)) dX9_sheet_56 (by decide) ?_
                refine r_goto (tgt := 61) dX9_sheet_57 (by decide) ?_
                refine x_callV0 (c := 6) (i := (Int32.toNatClampNeg p1)) hE (fun _ _ => rfl) (by with_reducible assumption) dX9_sheet_61 mf_X6_become ml_RX9_338 (ok_X6_become (d := d - 1) hE hX (by omega) _ _ _ _ (by with_reducible assumption)) rfl rfl rfl rfl (Nat.le_of_ble_eq_true rfl) (by omega) ?_
                refine r_iconst (v := (1 : Int32)) dX9_sheet_64 (by decide) ?_
                refine r_iret dX9_sheet_65 rfl rfl ?_
                exact ⟨_, rfl, by rw [f_X9_sheet, if_neg c1, if_neg c2, if_neg c3, if_pos c4, if_neg c5, if_pos c7, if_pos c8], by rw [f_X9_sheet, if_neg c1, if_neg c2, if_neg c3, if_pos c4, if_neg c5, if_pos c7, if_pos c8]⟩
            · refine r_bipush (v := (-14 : Int32)) dX9_sheet_45 (by decide) ?_
              refine r_iret dX9_sheet_47 rfl rfl ?_
              exact ⟨_, rfl, by rw [f_X9_sheet, if_neg c1, if_neg c2, if_neg c3, if_pos c4, if_neg c5, if_neg c7], by rw [f_X9_sheet, if_neg c1, if_neg c2, if_neg c3, if_pos c4, if_neg c5, if_neg c7]⟩
        · refine r_iload_n dX9_sheet_27 rfl ?_
          refine r_bipush (v := (40 : Int32)) dX9_sheet_28 (by decide) ?_
          refine r_icmp_le (tgt := 36) dX9_sheet_30 (by decide) (fun c9 => ?_) (fun c9 => ?_)
          · refine r_iload_n dX9_sheet_36 rfl ?_
            refine r_iconst (v := (-1 : Int32)) dX9_sheet_37 (by decide) ?_
            refine r_icmp_eq (tgt := 48) dX9_sheet_38 (by decide) (fun c10 => ?_) (fun c10 => ?_)
            · refine r_aload dX9_sheet_48 rfl ?_
              refine r_iload_n dX9_sheet_50 rfl ?_
              refine r_iload_n dX9_sheet_51 rfl ?_
              refine r_iconst (v := (-1 : Int32)) dX9_sheet_52 (by decide) ?_
              refine r_icmp_ne (tgt := 60) dX9_sheet_53 (by decide) (fun c11 => ?_) (fun c11 => ?_)
              · refine r_iload_n dX9_sheet_60 rfl ?_
                refine x_callV0 (c := 6) (i := (Int32.toNatClampNeg p1)) hE (fun _ _ => rfl) (by with_reducible assumption) dX9_sheet_61 mf_X6_become ml_RX9_338 (ok_X6_become (d := d - 1) hE hX (by omega) _ _ _ _ (by with_reducible assumption)) rfl rfl rfl rfl (Nat.le_of_ble_eq_true rfl) (by omega) ?_
                refine r_iconst (v := (1 : Int32)) dX9_sheet_64 (by decide) ?_
                refine r_iret dX9_sheet_65 rfl rfl ?_
                exact ⟨_, rfl, by rw [f_X9_sheet, if_neg c1, if_neg c2, if_neg c3, if_neg c4, if_pos c9, if_pos c10, if_neg c11], by rw [f_X9_sheet, if_neg c1, if_neg c2, if_neg c3, if_neg c4, if_pos c9, if_pos c10, if_neg c11]⟩
              · refine r_iconst (v := (0 : Int32)) dX9_sheet_56 (by decide) ?_
                refine r_goto (tgt := 61) dX9_sheet_57 (by decide) ?_
                refine x_callV0 (c := 6) (i := (Int32.toNatClampNeg p1)) hE (fun _ _ => rfl) (by with_reducible assumption) dX9_sheet_61 mf_X6_become ml_RX9_338 (ok_X6_become (d := d - 1) hE hX (by omega) _ _ _ _ (by with_reducible assumption)) rfl rfl rfl rfl (Nat.le_of_ble_eq_true rfl) (by omega) ?_
                refine r_iconst (v := (1 : Int32)) dX9_sheet_64 (by decide) ?_
                refine r_iret dX9_sheet_65 rfl rfl ?_
                exact ⟨_, rfl, by rw [f_X9_sheet, if_neg c1, if_neg c2, if_neg c3, if_neg c4, if_pos c9, if_pos c10, if_pos c11], by rw [f_X9_sheet, if_neg c1, if_neg c2, if_neg c3, if_neg c4, if_pos c9, if_pos c10, if_pos c11]⟩
            · refine r_iload_n dX9_sheet_41 rfl ?_
              refine r_if_ge (tgt := 48) dX9_sheet_42 (by decide) (fun c12 => ?_) (fun c12 => ?_)
              · refine r_aload dX9_sheet_48 rfl ?_
                refine r_iload_n dX9_sheet_50 rfl ?_
                refine r_iload_n dX9_sheet_51 rfl ?_
                refine r_iconst (v := (-1 : Int32)) dX9_sheet_52 (by decide) ?_
                refine r_icmp_ne (tgt := 60) dX9_sheet_53 (by decide) (fun c13 => ?_) (fun c13 => ?_)
                · refine r_iload_n dX9_sheet_60 rfl ?_
                  refine x_callV0 (c := 6) (i := (Int32.toNatClampNeg p1)) hE (fun _ _ => rfl) (by with_reducible assumption) dX9_sheet_61 mf_X6_become ml_RX9_338 (ok_X6_become (d := d - 1) hE hX (by omega) _ _ _ _ (by with_reducible assumption)) rfl rfl rfl rfl (Nat.le_of_ble_eq_true rfl) (by omega) ?_
                  refine r_iconst (v := (1 : Int32)) dX9_sheet_64 (by decide) ?_
                  refine r_iret dX9_sheet_65 rfl rfl ?_
                  exact ⟨_, rfl, by rw [f_X9_sheet, if_neg c1, if_neg c2, if_neg c3, if_neg c4, if_pos c9, if_neg c10, if_pos c12, if_neg c13], by rw [f_X9_sheet, if_neg c1, if_neg c2, if_neg c3, if_neg c4, if_pos c9, if_neg c10, if_pos c12, if_neg c13]⟩
                · refine r_iconst (v := (0 : Int32)) dX9_sheet_56 (by decide) ?_
                  refine r_goto (tgt := 61) dX9_sheet_57 (by decide) ?_
                  refine x_callV0 (c := 6) (i := (Int32.toNatClampNeg p1)) hE (fun _ _ => rfl) (by with_reducible assumption) dX9_sheet_61 mf_X6_become ml_RX9_338 (ok_X6_become (d := d - 1) hE hX (by omega) _ _ _ _ (by with_reducible assumption)) rfl rfl rfl rfl (Nat.le_of_ble_eq_true rfl) (by omega) ?_
                  refine r_iconst (v := (1 : Int32)) dX9_sheet_64 (by decide) ?_
                  refine r_iret dX9_sheet_65 rfl rfl ?_
                  exact ⟨_, rfl, by rw [f_X9_sheet, if_neg c1, if_neg c2, if_neg c3, if_neg c4, if_pos c9, if_neg c10, if_pos c12, if_pos c13], by rw [f_X9_sheet, if_neg c1, if_neg c2, if_neg c3, if_neg c4, if_pos c9, if_neg c10, if_pos c12, if_pos c13]⟩
              · refine r_bipush (v := (-14 : Int32)) dX9_sheet_45 (by decide) ?_
                refine r_iret dX9_sheet_47 rfl rfl ?_
                exact ⟨_, rfl, by rw [f_X9_sheet, if_neg c1, if_neg c2, if_neg c3, if_neg c4, if_pos c9, if_neg c10, if_neg c12], by rw [f_X9_sheet, if_neg c1, if_neg c2, if_neg c3, if_neg c4, if_pos c9, if_neg c10, if_neg c12]⟩
          · refine r_bipush (v := (-2 : Int32)) dX9_sheet_33 (by decide) ?_
            refine r_iret dX9_sheet_35 rfl rfl ?_
            exact ⟨_, rfl, by rw [f_X9_sheet, if_neg c1, if_neg c2, if_neg c3, if_neg c4, if_neg c9], by rw [f_X9_sheet, if_neg c1, if_neg c2, if_neg c3, if_neg c4, if_neg c9]⟩

theorem sz_in {z i : Int32} (hz : Ct z 40) (c : ¬ f_X9_isBelow i z = 0) : vp_in i 40 := by
  obtain ⟨n, hn, rfl⟩ := hz
  obtain ⟨k, hk, rfl⟩ := below_n rfl (by omega) c
  exact vp_in_nI (by omega) (by decide)

def f_X9_cell (S : XSh) (σ : XSt) (p1 : Int32) (p2 : Int32) (p3 : Int32) : Int32 × XSt := (if (f_X9_sheetAt S σ p1) = 0 then ((-2 : Int32), σ) else (if (σ.1 6 (Int32.toNatClampNeg p1) 1) = (-1 : Int32) then ((-11 : Int32), σ) else (if (f_X9_isBelow p2 (σ.1 6 (Int32.toNatClampNeg p1) 2)) = 0 then ((-12 : Int32), σ) else ((1 : Int32), (xa σ 30 (Int32.toNatClampNeg p1) (Int32.toNatClampNeg p2) (f_X6_cut S σ (Int32.toNatClampNeg p1) p3))))))
set_option maxRecDepth 100000 in
set_option maxHeartbeats 1000000 in
theorem ok_X9_cell {g : GC} {B : hH} {am : XAd} {S : XSh} {d : Nat} (hE : XOk am S) (hX : GX g) (hd : 2 ≤ d) (σ : XSt) (p1 : Int32) (p2 : Int32) (p3 : Int32) (h0 : XInv S σ) : XC g B am S d yX9_cell cX9_cell 5 (some FieldType.int) [.ref (am 9 0), .int p1, .int p2, .int p3] (fun v σ' => v = some (.int (f_X9_cell S σ p1 p2 p3).1) ∧ σ' = (f_X9_cell S σ p1 p2 p3).2) σ := by
  refine AM.of2 (own := RX9) (nm := "cell") (L0 := [(0, .ref (am 9 0)), (1, .int p1), (2, .int p2), (3, .int p3)]) (by decide) rfl rfl (Nat.le_of_ble_eq_true rfl) rfl ?_
  refine r_aload_n dX9_cell_0 rfl ?_
  refine r_iload_n dX9_cell_1 rfl ?_
  by_cases c1 : (f_X9_sheetAt S σ p1) = 0
  · refine x_callW (c := 9) (i := 0) hE (fun _ _ => rfl) (Nat.le_of_ble_eq_true rfl) dX9_cell_2 mf_X9_sheetAt ml_RX9_334 (ok_X9_sheetAt (d := d - 1) hE hX (by omega) _ _) rfl rfl rfl rfl (Nat.le_of_ble_eq_true rfl) (by omega) ?_
    rw [if_pos c1]
    refine r_astoreN dX9_cell_5 (by decide) ?_
    refine r_aloadN dX9_cell_7 rfl ?_
    refine r_ifnonnullN dX9_cell_9 ?_
    refine r_bipush (v := (-2 : Int32)) dX9_cell_12 (by decide) ?_
    refine r_iret dX9_cell_14 rfl rfl ?_
    exact ⟨_, rfl, by rw [f_X9_cell, if_pos c1], by rw [f_X9_cell, if_pos c1]⟩
  · refine x_callW (c := 9) (i := 0) hE (fun _ _ => rfl) (Nat.le_of_ble_eq_true rfl) dX9_cell_2 mf_X9_sheetAt ml_RX9_334 (ok_X9_sheetAt (d := d - 1) hE hX (by omega) _ _) rfl rfl rfl rfl (Nat.le_of_ble_eq_true rfl) (by omega) ?_
    rw [if_neg c1]
    have lc1 := lv_X9_sheetAt c1
    refine r_astore dX9_cell_5 (by decide) ?_
    refine r_aload dX9_cell_7 rfl ?_
    refine r_ifnonnull (tgt := 15) dX9_cell_9 (by decide) ?_
    refine r_aload dX9_cell_15 rfl ?_
    refine x_getI (c := 6) (x := (σ.1 6 (Int32.toNatClampNeg p1) 1)) hE (fun _ _ => rfl) (fun _ => rfl) dX9_cell_17 fl_RX9_341 (by first | with_reducible assumption | exact lv_X9_sheetAt (by with_reducible assumption)) rfl ?_
    refine r_iconst (v := (-1 : Int32)) dX9_cell_20 (by decide) ?_
    refine r_icmp_ne (tgt := 27) dX9_cell_21 (by decide) (fun c2 => ?_) (fun c2 => ?_)
    · refine r_iload_n dX9_cell_27 rfl ?_
      refine r_aload dX9_cell_28 rfl ?_
      refine x_getI (c := 6) (x := (σ.1 6 (Int32.toNatClampNeg p1) 2)) hE (fun _ _ => rfl) (fun _ => rfl) dX9_cell_30 fl_RX9_344 (by first | with_reducible assumption | exact lv_X9_sheetAt (by with_reducible assumption)) rfl ?_
      refine r_callS0 dX9_cell_33 mf_X9_isBelow ml_RX9_136 (ok_X9_isBelow (d := d - 1) (by omega) _ _) rfl rfl (Nat.le_of_ble_eq_true rfl) (by omega) ?_
      refine r_if_ne (tgt := 42) dX9_cell_36 (by decide) (fun c3 => ?_) (fun c3 => ?_)
      · refine r_aload dX9_cell_42 rfl ?_
        refine x_get (c := 6) hE (fun _ _ => rfl) dX9_cell_44 fl_RX9_345 (by first | with_reducible assumption | exact lv_X9_sheetAt (by with_reducible assumption)) rfl ?_
        refine r_iload_n dX9_cell_47 rfl ?_
        refine r_aload dX9_cell_48 rfl ?_
        refine r_iload_n dX9_cell_50 rfl ?_
        refine x_callW (c := 6) (i := (Int32.toNatClampNeg p1)) hE (fun _ _ => rfl) (by first | with_reducible assumption | exact lv_X9_sheetAt (by with_reducible assumption)) dX9_cell_51 mf_X6_cut ml_RX9_348 (ok_X6_cut (d := d - 1) hE hX (by omega) _ _ _ (by first | with_reducible assumption | exact lv_X9_sheetAt (by with_reducible assumption))) rfl rfl rfl rfl (Nat.le_of_ble_eq_true rfl) (by omega) ?_
        refine x_iast (c := 30) (i := (Int32.toNatClampNeg p1)) (N := 40) hE (fun _ _ => rfl) dX9_cell_54 (by first | with_reducible assumption | exact lv_X9_sheetAt (by with_reducible assumption)) (by exact sz_in (h0.sh (by with_reducible assumption)) (by with_reducible assumption)) ?_
        refine r_iconst (v := (1 : Int32)) dX9_cell_55 (by decide) ?_
        refine r_iret dX9_cell_56 rfl rfl ?_
        exact ⟨_, rfl, by rw [f_X9_cell, if_neg c1, if_neg c2, if_neg c3], by rw [f_X9_cell, if_neg c1, if_neg c2, if_neg c3]⟩
      · refine r_bipush (v := (-12 : Int32)) dX9_cell_39 (by decide) ?_
        refine r_iret dX9_cell_41 rfl rfl ?_
        exact ⟨_, rfl, by rw [f_X9_cell, if_neg c1, if_neg c2, if_pos c3], by rw [f_X9_cell, if_neg c1, if_neg c2, if_pos c3]⟩
    · refine r_bipush (v := (-11 : Int32)) dX9_cell_24 (by decide) ?_
      refine r_iret dX9_cell_26 rfl rfl ?_
      exact ⟨_, rfl, by rw [f_X9_cell, if_neg c1, if_pos c2], by rw [f_X9_cell, if_neg c1, if_pos c2]⟩

def f_X9_copy (S : XSh) (σ : XSt) (p1 : Int32) (p2 : Int32) (p3 : Int32) (p4 : Int32) (p5 : Int32) : Int32 × XSt := (if (f_X9_sheetAt S σ p1) = 0 then (if (f_X9_sheetAt S σ p3) = 0 then ((-2 : Int32), σ) else ((-2 : Int32), σ)) else (if (f_X9_sheetAt S σ p3) = 0 then ((-2 : Int32), σ) else (if (σ.1 6 (Int32.toNatClampNeg p1) 1) = (-1 : Int32) then ((-11 : Int32), σ) else (if (σ.1 6 (Int32.toNatClampNeg p3) 1) = (-1 : Int32) then ((-11 : Int32), σ) else (if (σ.1 6 (Int32.toNatClampNeg p1) 1) = (σ.1 6 (Int32.toNatClampNeg p3) 1) then (if (f_X6_has S σ (Int32.toNatClampNeg p1) p2 p5) = 0 then ((-12 : Int32), σ) else (if (f_X6_has S σ (Int32.toNatClampNeg p3) p4 p5) = 0 then ((-12 : Int32), σ) else (p5, (xb σ 30 (Int32.toNatClampNeg p3) (va_cpy (σ.2 30 (Int32.toNatClampNeg p1)) (σ.2 30 (Int32.toNatClampNeg p3)) (Int32.toNatClampNeg p2) (Int32.toNatClampNeg p4) (Int32.toNatClampNeg p5)))))) else ((-13 : Int32), σ))))))
set_option maxRecDepth 100000 in
set_option maxHeartbeats 1000000 in
theorem ok_X9_copy {g : GC} {B : hH} {am : XAd} {S : XSh} {d : Nat} (hE : XOk am S) (hX : GX g) (hd : 2 ≤ d) (σ : XSt) (p1 : Int32) (p2 : Int32) (p3 : Int32) (p4 : Int32) (p5 : Int32) (h0 : XInv S σ) : XC g B am S d yX9_copy cX9_copy 8 (some FieldType.int) [.ref (am 9 0), .int p1, .int p2, .int p3, .int p4, .int p5] (fun v σ' => v = some (.int (f_X9_copy S σ p1 p2 p3 p4 p5).1) ∧ σ' = (f_X9_copy S σ p1 p2 p3 p4 p5).2) σ := by
  refine AM.of2 (own := RX9) (nm := "copy") (L0 := [(0, .ref (am 9 0)), (1, .int p1), (2, .int p2), (3, .int p3), (4, .int p4), (5, .int p5)]) (by decide) rfl rfl (Nat.le_of_ble_eq_true rfl) rfl ?_
  refine r_aload_n dX9_copy_0 rfl ?_
  refine r_iload_n dX9_copy_1 rfl ?_
  by_cases c1 : (f_X9_sheetAt S σ p1) = 0
  · refine x_callW (c := 9) (i := 0) hE (fun _ _ => rfl) (Nat.le_of_ble_eq_true rfl) dX9_copy_2 mf_X9_sheetAt ml_RX9_334 (ok_X9_sheetAt (d := d - 1) hE hX (by omega) _ _) rfl rfl rfl rfl (Nat.le_of_ble_eq_true rfl) (by omega) ?_
    rw [if_pos c1]
    refine r_astoreN dX9_copy_5 (by decide) ?_
    refine r_aload_n dX9_copy_7 rfl ?_
    refine r_iload_n dX9_copy_8 rfl ?_
    by_cases c2 : (f_X9_sheetAt S σ p3) = 0
    · refine x_callW (c := 9) (i := 0) hE (fun _ _ => rfl) (Nat.le_of_ble_eq_true rfl) dX9_copy_9 mf_X9_sheetAt ml_RX9_334 (ok_X9_sheetAt (d := d - 1) hE hX (by omega) _ _) rfl rfl rfl rfl (Nat.le_of_ble_eq_true rfl) (by omega) ?_
      rw [if_pos c2]
      refine r_astoreN dX9_copy_12 (by decide) ?_
      refine r_aloadN dX9_copy_14 rfl ?_
      refine r_ifnullN (tgt := 24) dX9_copy_16 (by decide) ?_
      refine r_bipush (v := (-2 : Int32)) dX9_copy_24 (by decide) ?_
      refine r_iret dX9_copy_26 rfl rfl ?_
      exact ⟨_, rfl, by rw [f_X9_copy, if_pos c1, if_pos c2], by rw [f_X9_copy, if_pos c1, if_pos c2]⟩
    · refine x_callW (c := 9) (i := 0) hE (fun _ _ => rfl) (Nat.le_of_ble_eq_true rfl) dX9_copy_9 mf_X9_sheetAt ml_RX9_334 (ok_X9_sheetAt (d := d - 1) hE hX (by omega) _ _) rfl rfl rfl rfl (Nat.le_of_ble_eq_true rfl) (by omega) ?_
      rw [if_neg c2]
      have lc2 := lv_X9_sheetAt c2
      refine r_astore dX9_copy_12 (by decide) ?_
      refine r_aloadN dX9_copy_14 rfl ?_
      refine r_ifnullN (tgt := 24) dX9_copy_16 (by decide) ?_
      refine r_bipush (v := (-2 : Int32)) dX9_copy_24 (by decide) ?_
      refine r_iret dX9_copy_26 rfl rfl ?_
      exact ⟨_, rfl, by rw [f_X9_copy, if_pos c1, if_neg c2], by rw [f_X9_copy, if_pos c1, if_neg c2]⟩
  · refine x_callW (c := 9) (i := 0) hE (fun _ _ => rfl) (Nat.le_of_ble_eq_true rfl) dX9_copy_2 mf_X9_sheetAt ml_RX9_334 (ok_X9_sheetAt (d := d - 1) hE hX (by omega) _ _) rfl rfl rfl rfl (Nat.le_of_ble_eq_true rfl) (by omega) ?_
    rw [if_neg c1]
    have lc1 := lv_X9_sheetAt c1
    refine r_astore dX9_copy_5 (by decide) ?_
    refine r_aload_n dX9_copy_7 rfl ?_
    refine r_iload_n dX9_copy_8 rfl ?_
    by_cases c3 : (f_X9_sheetAt S σ p3) = 0
    · refine x_callW (c := 9) (i := 0) hE (fun _ _ => rfl) (Nat.le_of_ble_eq_true rfl) dX9_copy_9 mf_X9_sheetAt ml_RX9_334 (ok_X9_sheetAt (d := d - 1) hE hX (by omega) _ _) rfl rfl rfl rfl (Nat.le_of_ble_eq_true rfl) (by omega) ?_
      rw [if_pos c3]
      refine r_astoreN dX9_copy_12 (by decide) ?_
      refine r_aload dX9_copy_14 rfl ?_
      refine r_ifnull dX9_copy_16 ?_
      refine r_aloadN dX9_copy_19 rfl ?_
      refine r_ifnonnullN dX9_copy_21 ?_
      refine r_bipush (v := (-2 : Int32)) dX9_copy_24 (by decide) ?_
      refine r_iret dX9_copy_26 rfl rfl ?_
      exact ⟨_, rfl, by rw [f_X9_copy, if_neg c1, if_pos c3], by rw [f_X9_copy, if_neg c1, if_pos c3]⟩
    · refine x_callW (c := 9) (i := 0) hE (fun _ _ => rfl) (Nat.le_of_ble_eq_true rfl) dX9_copy_9 mf_X9_sheetAt ml_RX9_334 (ok_X9_sheetAt (d := d - 1) hE hX (by omega) _ _) rfl rfl rfl rfl (Nat.le_of_ble_eq_true rfl) (by omega) ?_
      rw [if_neg c3]
      have lc3 := lv_X9_sheetAt c3
      refine r_astore dX9_copy_12 (by decide) ?_
      refine r_aload dX9_copy_14 rfl ?_
      refine r_ifnull dX9_copy_16 ?_
      refine r_aload dX9_copy_19 rfl ?_
      refine r_ifnonnull (tgt := 27) dX9_copy_21 (by decide) ?_
      refine r_aload dX9_copy_27 rfl ?_
      refine x_getI (c := 6) (x := (σ.1 6 (Int32.toNatClampNeg p1) 1)) hE (fun _ _ => rfl) (fun _ => rfl) dX9_copy_29 fl_RX9_341 (by first | with_reducible assumption | exact lv_X9_sheetAt (by with_reducible assumption)) rfl ?_
      refine r_iconst (v := (-1 : Int32)) dX9_copy_32 (by decide) ?_
      refine r_icmp_eq (tgt := 45) dX9_copy_33 (by decide) (fun c4 => ?_) (fun c4 => ?_)
      · refine r_bipush (v := (-11 : Int32)) dX9_copy_45 (by decide) ?_
        refine r_iret dX9_copy_47 rfl rfl ?_
        exact ⟨_, rfl, by rw [f_X9_copy, if_neg c1, if_neg c3, if_pos c4], by rw [f_X9_copy, if_neg c1, if_neg c3, if_pos c4]⟩
      · refine r_aload dX9_copy_36 rfl ?_
        refine x_getI (c := 6) (x := (σ.1 6 (Int32.toNatClampNeg p3) 1)) hE (fun _ _ => rfl) (fun _ => rfl) dX9_copy_38 fl_RX9_341 (by first | with_reducible assumption | exact lv_X9_sheetAt (by with_reducible assumption)) rfl ?_
        refine r_iconst (v := (-1 : Int32)) dX9_copy_41 (by decide) ?_
        refine r_icmp_ne (tgt := 48) dX9_copy_42 (by decide) (fun c5 => ?_) (fun c5 => ?_)
        · refine r_aload dX9_copy_48 rfl ?_
          refine x_getI (c := 6) (x := (σ.1 6 (Int32.toNatClampNeg p1) 1)) hE (fun _ _ => rfl) (fun _ => rfl) dX9_copy_50 fl_RX9_341 (by first | with_reducible assumption | exact lv_X9_sheetAt (by with_reducible assumption)) rfl ?_
          refine r_aload dX9_copy_53 rfl ?_
          refine x_getI (c := 6) (x := (σ.1 6 (Int32.toNatClampNeg p3) 1)) hE (fun _ _ => rfl) (fun _ => rfl) dX9_copy_55 fl_RX9_341 (by first | with_reducible assumption | exact lv_X9_sheetAt (by with_reducible assumption)) rfl ?_
          refine r_icmp_eq (tgt := 64) dX9_copy_58 (by decide) (fun c6 => ?_) (fun c6 => ?_)
          · refine r_aload dX9_copy_64 rfl ?_
            refine r_iload_n dX9_copy_66 rfl ?_
            refine r_iload dX9_copy_67 rfl ?_
            refine x_callW (c := 6) (i := (Int32.toNatClampNeg p1)) hE (fun _ _ => rfl) (by first | with_reducible assumption | exact lv_X9_sheetAt (by with_reducible assumption)) dX9_copy_69 mf_X6_has ml_RX9_351 (ok_X6_has (d := d - 1) hE hX (by omega) _ _ _ _ (by first | with_reducible assumption | exact lv_X9_sheetAt (by with_reducible assumption))) rfl rfl rfl rfl (Nat.le_of_ble_eq_true rfl) (by omega) ?_
            refine r_if_eq (tgt := 87) dX9_copy_72 (by decide) (fun c7 => ?_) (fun c7 => ?_)
            · refine r_bipush (v := (-12 : Int32)) dX9_copy_87 (by decide) ?_
              refine r_iret dX9_copy_89 rfl rfl ?_
              exact ⟨_, rfl, by rw [f_X9_copy, if_neg c1, if_neg c3, if_neg c4, if_neg c5, if_pos c6, if_pos c7], by rw [f_X9_copy, if_neg c1, if_neg c3, if_neg c4, if_neg c5, if_pos c6, if_pos c7]⟩
            · refine r_aload dX9_copy_75 rfl ?_
              refine r_iload dX9_copy_77 rfl ?_
              refine r_iload dX9_copy_79 rfl ?_
              refine x_callW (c := 6) (i := (Int32.toNatClampNeg p3)) hE (fun _ _ => rfl) (by first | with_reducible assumption | exact lv_X9_sheetAt (by with_reducible assumption)) dX9_copy_81 mf_X6_has ml_RX9_351 (ok_X6_has (d := d - 1) hE hX (by omega) _ _ _ _ (by first | with_reducible assumption | exact lv_X9_sheetAt (by with_reducible assumption))) rfl rfl rfl rfl (Nat.le_of_ble_eq_true rfl) (by omega) ?_
              refine r_if_ne (tgt := 90) dX9_copy_84 (by decide) (fun c8 => ?_) (fun c8 => ?_)
              · refine r_aload dX9_copy_90 rfl ?_
                refine x_get (c := 6) hE (fun _ _ => rfl) dX9_copy_92 fl_RX9_345 (by first | with_reducible assumption | exact lv_X9_sheetAt (by with_reducible assumption)) rfl ?_
                refine r_iload_n dX9_copy_95 rfl ?_
                refine r_aload dX9_copy_96 rfl ?_
                refine x_get (c := 6) hE (fun _ _ => rfl) dX9_copy_98 fl_RX9_345 (by first | with_reducible assumption | exact lv_X9_sheetAt (by with_reducible assumption)) rfl ?_
                refine r_iload dX9_copy_101 rfl ?_
                refine r_iload dX9_copy_103 rfl ?_
                refine x_copy (N := 40) hE (fun _ _ => rfl) (fun _ _ => rfl) dX9_copy_105 ml0_RX9_354 cpN cpS cpI (by first | with_reducible assumption | exact lv_X9_sheetAt (by with_reducible assumption)) (by first | with_reducible assumption | exact lv_X9_sheetAt (by with_reducible assumption)) (has_k (h0.sh (i := p1.toNatClampNeg) (by with_reducible assumption)) (by with_reducible assumption)).1 (has_k (h0.sh (i := p3.toNatClampNeg) (by with_reducible assumption)) (by with_reducible assumption)).1 (has_k (h0.sh (i := p1.toNatClampNeg) (by with_reducible assumption)) (by with_reducible assumption)).2.1 (has_k (h0.sh (i := p1.toNatClampNeg) (by with_reducible assumption)) (by with_reducible assumption)).2.2.le (has_k (h0.sh (i := p3.toNatClampNeg) (by with_reducible assumption)) (by with_reducible assumption)).2.2.le (Nat.le_of_ble_eq_true rfl) (by omega) ?_
                refine r_iload dX9_copy_108 rfl ?_
                refine r_iret dX9_copy_110 rfl rfl ?_
                exact ⟨_, rfl, by rw [f_X9_copy, if_neg c1, if_neg c3, if_neg c4, if_neg c5, if_pos c6, if_neg c7, if_neg c8], by rw [f_X9_copy, if_neg c1, if_neg c3, if_neg c4, if_neg c5, if_pos c6, if_neg c7, if_neg c8]⟩
              · refine r_bipush (v := (-12 : Int32)) dX9_copy_87 (by decide) ?_
                refine r_iret dX9_copy_89 rfl rfl ?_
                exact ⟨_, rfl, by rw [f_X9_copy, if_neg c1, if_neg c3, if_neg c4, if_neg c5, if_pos c6, if_neg c7, if_pos c8], by rw [f_X9_copy, if_neg c1, if_neg c3, if_neg c4, if_neg c5, if_pos c6, if_neg c7, if_pos c8]⟩
          · refine r_bipush (v := (-13 : Int32)) dX9_copy_61 (by decide) ?_
            refine r_iret dX9_copy_63 rfl rfl ?_
            exact ⟨_, rfl, by rw [f_X9_copy, if_neg c1, if_neg c3, if_neg c4, if_neg c5, if_neg c6], by rw [f_X9_copy, if_neg c1, if_neg c3, if_neg c4, if_neg c5, if_neg c6]⟩
        · refine r_bipush (v := (-11 : Int32)) dX9_copy_45 (by decide) ?_
          refine r_iret dX9_copy_47 rfl rfl ?_
          exact ⟨_, rfl, by rw [f_X9_copy, if_neg c1, if_neg c3, if_neg c4, if_pos c5], by rw [f_X9_copy, if_neg c1, if_neg c3, if_neg c4, if_pos c5]⟩

theorem up10 {x : Int32} (c : ¬ f_X9_isUpTo x 10 = 0) : Ct x 10 := by
  obtain ⟨k, hk, e⟩ := upTo_n (m := 10) (M := 10) rfl (by decide) c
  exact ⟨k, hk, e⟩

def f_X9_sales_L63 : Nat → XSh → XSt → Int32 → Int32 → Int32 → Int32 → Nat → Int32 → Int32 → Int32 × XSt
  | 0, _, σ, _, _, _, _, _, _, _ => (0, σ)
  | n + 1, S, σ, l1, l2, l3, l4, l5, l6, l7 => (if l4 ≤ l7 then (l6, σ) else (if (f_X6_has S σ l5 (l3 + ((4 : Int32) * l7)) (4 : Int32)) = 0 then ((-12 : Int32), σ) else (if (f_X9_sale S σ (σ.2 30 l5 (Int32.toNatClampNeg (l3 + ((4 : Int32) * l7)))) (σ.2 30 l5 (Int32.toNatClampNeg ((l3 + ((4 : Int32) * l7)) + (1 : Int32)))) (σ.2 30 l5 (Int32.toNatClampNeg ((l3 + ((4 : Int32) * l7)) + (2 : Int32)))) (σ.2 30 l5 (Int32.toNatClampNeg ((l3 + ((4 : Int32) * l7)) + (3 : Int32))))).1 < 0 then (f_X9_sales_L63 n S (f_X9_sale S σ (σ.2 30 l5 (Int32.toNatClampNeg (l3 + ((4 : Int32) * l7)))) (σ.2 30 l5 (Int32.toNatClampNeg ((l3 + ((4 : Int32) * l7)) + (1 : Int32)))) (σ.2 30 l5 (Int32.toNatClampNeg ((l3 + ((4 : Int32) * l7)) + (2 : Int32)))) (σ.2 30 l5 (Int32.toNatClampNeg ((l3 + ((4 : Int32) * l7)) + (3 : Int32))))).2 l1 l2 l3 l4 l5 l6 (l7 + (1 : Int32))) else (f_X9_sales_L63 n S (f_X9_sale S σ (σ.2 30 l5 (Int32.toNatClampNeg (l3 + ((4 : Int32) * l7)))) (σ.2 30 l5 (Int32.toNatClampNeg ((l3 + ((4 : Int32) * l7)) + (1 : Int32)))) (σ.2 30 l5 (Int32.toNatClampNeg ((l3 + ((4 : Int32) * l7)) + (2 : Int32)))) (σ.2 30 l5 (Int32.toNatClampNeg ((l3 + ((4 : Int32) * l7)) + (3 : Int32))))).2 l1 l2 l3 l4 l5 (l6 + (1 : Int32)) (l7 + (1 : Int32))))))
set_option maxRecDepth 100000 in
set_option maxHeartbeats 1000000 in
theorem lp_X9_sales_63 {g : GC} {B : hH} {am : XAd} {S : XSh} {d : Nat} {K : Option Value → XSt → Prop} (hE : XOk am S) (hX : GX g) (hd : 3 ≤ d) : ∀ (fuel : Nat) (σ : XSt) (l1 : Int32) (l2 : Int32) (l3 : Int32) (l4 : Int32) (l5 : Nat) (l6 : Int32) (l7 : Int32), XInv S σ → l5 < lim S 6 → Ct l4 10 → Ct l7 10 → 11 - l7.toNatClampNeg < fuel → K (some (.int (f_X9_sales_L63 fuel S σ l1 l2 l3 l4 l5 l6 l7).1)) (f_X9_sales_L63 fuel S σ l1 l2 l3 l4 l5 l6 l7).2 → XW g B am S RX9 cX9_sales 9 (some FieldType.int) "sales" d K 63 [(0, .ref (am 9 0)), (1, .int l1), (2, .int l2), (3, .int l3), (4, .int l4), (5, .ref (am 6 l5)), (6, .int l6), (7, .int l7)] [] σ := by
  intro fuel
  induction fuel with
  | zero => intro σ l1 l2 l3 l4 l5 l6 l7 i0 i1 i2 i3 hm hK; exact absurd hm (Nat.not_lt_zero _)
  | succ n ih =>
    intro σ l1 l2 l3 l4 l5 l6 l7 i0 i1 i2 i3 hm hK
    refine r_iload dX9_sales_63 rfl ?_
    refine r_iload dX9_sales_65 rfl ?_
    refine r_icmp_ge (tgt := 146) dX9_sales_67 (by decide) (fun c6 => ?_) (fun c6 => ?_)
    · refine r_iload dX9_sales_146 rfl ?_
      refine r_iret dX9_sales_148 rfl rfl ?_
      exact ⟨_, rfl, by rw [f_X9_sales_L63, if_pos c6] at hK; exact hK⟩
    · refine r_iload_n dX9_sales_70 rfl ?_
      refine r_iconst (v := (4 : Int32)) dX9_sales_71 (by decide) ?_
      refine r_iload dX9_sales_72 rfl ?_
      refine r_imul dX9_sales_74 ?_
      refine r_iadd dX9_sales_75 ?_
      refine r_istore dX9_sales_76 (by decide) ?_
      refine r_aload dX9_sales_78 rfl ?_
      refine r_iload dX9_sales_80 rfl ?_
      refine r_iconst (v := (4 : Int32)) dX9_sales_82 (by decide) ?_
      refine x_callW (c := 6) (i := l5) hE (fun _ _ => rfl) (by first | with_reducible assumption | exact i1) dX9_sales_83 mf_X6_has ml_RX9_351 (ok_X6_has (d := d - 1) hE hX (by omega) _ _ _ _ (by first | with_reducible assumption | exact i1)) rfl rfl rfl rfl (Nat.le_of_ble_eq_true rfl) (by omega) ?_
      refine r_if_ne (tgt := 92) dX9_sales_86 (by decide) (fun c7 => ?_) (fun c7 => ?_)
      · refine r_aload_n dX9_sales_92 rfl ?_
        refine r_aload dX9_sales_93 rfl ?_
        refine x_get (c := 6) hE (fun _ _ => rfl) dX9_sales_95 fl_RX9_345 (by first | with_reducible assumption | exact i1) rfl ?_
        refine r_iload dX9_sales_98 rfl ?_
        refine x_ialdV (c := 30) (i := l5) (N := 40) (x := (σ.2 30 l5 (Int32.toNatClampNeg (l3 + ((4 : Int32) * l7))))) hE (fun _ _ => rfl) dX9_sales_100 (by first | with_reducible assumption | exact i1) (by exact (has_k (i0.sh i1) (by with_reducible assumption)).2.2.four.1) rfl ?_
        refine r_aload dX9_sales_101 rfl ?_
        refine x_get (c := 6) hE (fun _ _ => rfl) dX9_sales_103 fl_RX9_345 (by first | with_reducible assumption | exact i1) rfl ?_
        refine r_iload dX9_sales_106 rfl ?_
        refine r_iconst (v := (1 : Int32)) dX9_sales_108 (by decide) ?_
        refine r_iadd dX9_sales_109 ?_
        refine x_ialdV (c := 30) (i := l5) (N := 40) (x := (σ.2 30 l5 (Int32.toNatClampNeg ((l3 + ((4 : Int32) * l7)) + (1 : Int32))))) hE (fun _ _ => rfl) dX9_sales_110 (by first | with_reducible assumption | exact i1) (by exact (has_k (i0.sh i1) (by with_reducible assumption)).2.2.four.2.1) rfl ?_
        refine r_aload dX9_sales_111 rfl ?_
        refine x_get (c := 6) hE (fun _ _ => rfl) dX9_sales_113 fl_RX9_345 (by first | with_reducible assumption | exact i1) rfl ?_
        refine r_iload dX9_sales_116 rfl ?_
        refine r_iconst (v := (2 : Int32)) dX9_sales_118 (by decide) ?_
        refine r_iadd dX9_sales_119 ?_
        refine x_ialdV (c := 30) (i := l5) (N := 40) (x := (σ.2 30 l5 (Int32.toNatClampNeg ((l3 + ((4 : Int32) * l7)) + (2 : Int32))))) hE (fun _ _ => rfl) dX9_sales_120 (by first | with_reducible assumption | exact i1) (by exact (has_k (i0.sh i1) (by with_reducible assumption)).2.2.four.2.2.1) rfl ?_
        refine r_aload dX9_sales_121 rfl ?_
        refine x_get (c := 6) hE (fun _ _ => rfl) dX9_sales_123 fl_RX9_345 (by first | with_reducible assumption | exact i1) rfl ?_
        refine r_iload dX9_sales_126 rfl ?_
        refine r_iconst (v := (3 : Int32)) dX9_sales_128 (by decide) ?_
        refine r_iadd dX9_sales_129 ?_
        refine x_ialdV (c := 30) (i := l5) (N := 40) (x := (σ.2 30 l5 (Int32.toNatClampNeg ((l3 + ((4 : Int32) * l7)) + (3 : Int32))))) hE (fun _ _ => rfl) dX9_sales_130 (by first | with_reducible assumption | exact i1) (by exact (has_k (i0.sh i1) (by with_reducible assumption)).2.2.four.2.2.2) rfl ?_
        refine x_callW (c := 9) (i := 0) hE (fun _ _ => rfl) (Nat.le_of_ble_eq_true rfl) dX9_sales_131 mf_X9_sale ml_RX9_360 (ok_X9_sale (d := d - 1) hE hX (by omega) _ _ _ _ _ (by with_reducible assumption)) rfl rfl rfl rfl (Nat.le_of_ble_eq_true rfl) (by omega) ?_
        refine r_if_lt (tgt := 140) dX9_sales_134 (by decide) (fun c8 => ?_) (fun c8 => ?_)
        · refine r_iinc2 (w := (1 : Int32)) dX9_sales_140 rfl (by decide) (by decide) ?_
          refine r_goto (tgt := 63) dX9_sales_143 (by decide) ?_
          refine r_loc (L' := [(0, .ref (am 9 0)), (1, .int l1), (2, .int l2), (3, .int l3), (4, .int l4), (5, .ref (am 6 l5)), (6, .int l6), (7, .int (l7 + (1 : Int32)))]) [2, 3, 4, 5, 6, 7, 8, 0] rfl ?_
          exact ih (f_X9_sale S σ (σ.2 30 l5 (Int32.toNatClampNeg (l3 + ((4 : Int32) * l7)))) (σ.2 30 l5 (Int32.toNatClampNeg ((l3 + ((4 : Int32) * l7)) + (1 : Int32)))) (σ.2 30 l5 (Int32.toNatClampNeg ((l3 + ((4 : Int32) * l7)) + (2 : Int32)))) (σ.2 30 l5 (Int32.toNatClampNeg ((l3 + ((4 : Int32) * l7)) + (3 : Int32))))).2  l1 l2 l3 l4 l5 l6 (l7 + (1 : Int32)) (by exact i0.sale) (by exact i1) (by exact i2) (by exact (Ct.up (by decide) i2 i3 (by with_reducible assumption)).2.1) (by have u := (Ct.up (by decide) i2 i3 (by with_reducible assumption)).2.2; omega) (by rw [f_X9_sales_L63, if_neg c6, if_neg c7, if_pos c8] at hK; exact hK)
        · refine r_iinc2 (w := (1 : Int32)) dX9_sales_137 rfl (by decide) (by decide) ?_
          refine r_iinc2 (w := (1 : Int32)) dX9_sales_140 rfl (by decide) (by decide) ?_
          refine r_goto (tgt := 63) dX9_sales_143 (by decide) ?_
          refine r_loc (L' := [(0, .ref (am 9 0)), (1, .int l1), (2, .int l2), (3, .int l3), (4, .int l4), (5, .ref (am 6 l5)), (6, .int (l6 + (1 : Int32))), (7, .int (l7 + (1 : Int32)))]) [3, 4, 5, 6, 7, 8, 1, 0] rfl ?_
          exact ih (f_X9_sale S σ (σ.2 30 l5 (Int32.toNatClampNeg (l3 + ((4 : Int32) * l7)))) (σ.2 30 l5 (Int32.toNatClampNeg ((l3 + ((4 : Int32) * l7)) + (1 : Int32)))) (σ.2 30 l5 (Int32.toNatClampNeg ((l3 + ((4 : Int32) * l7)) + (2 : Int32)))) (σ.2 30 l5 (Int32.toNatClampNeg ((l3 + ((4 : Int32) * l7)) + (3 : Int32))))).2  l1 l2 l3 l4 l5 (l6 + (1 : Int32)) (l7 + (1 : Int32)) (by exact i0.sale) (by exact i1) (by exact i2) (by exact (Ct.up (by decide) i2 i3 (by with_reducible assumption)).2.1) (by have u := (Ct.up (by decide) i2 i3 (by with_reducible assumption)).2.2; omega) (by rw [f_X9_sales_L63, if_neg c6, if_neg c7, if_neg c8] at hK; exact hK)
      · refine r_bipush (v := (-12 : Int32)) dX9_sales_89 (by decide) ?_
        refine r_iret dX9_sales_91 rfl rfl ?_
        exact ⟨_, rfl, by rw [f_X9_sales_L63, if_neg c6, if_pos c7] at hK; exact hK⟩
def f_X9_sales (S : XSh) (σ : XSt) (p1 : Int32) (p2 : Int32) (p3 : Int32) (p4 : Int32) : Int32 × XSt := (if (f_X9_sheetAt S σ p1) = 0 then ((-2 : Int32), σ) else (if (f_X9_isUpTo p2 (2 : Int32)) = 0 then ((-2 : Int32), σ) else (if (f_X9_isUpTo p4 (10 : Int32)) = 0 then ((-2 : Int32), σ) else (if (σ.1 6 (Int32.toNatClampNeg p1) 1) = (-1 : Int32) then ((-11 : Int32), σ) else (if (σ.1 6 (Int32.toNatClampNeg p1) 1) = p2 then (f_X9_sales_L63 (12) S σ p1 p2 p3 p4 (Int32.toNatClampNeg p1) (0 : Int32) (0 : Int32)) else ((-13 : Int32), σ))))))
set_option maxRecDepth 100000 in
set_option maxHeartbeats 1000000 in
theorem ok_X9_sales {g : GC} {B : hH} {am : XAd} {S : XSh} {d : Nat} (hE : XOk am S) (hX : GX g) (hd : 3 ≤ d) (σ : XSt) (p1 : Int32) (p2 : Int32) (p3 : Int32) (p4 : Int32) (h0 : XInv S σ) : XC g B am S d yX9_sales cX9_sales 9 (some FieldType.int) [.ref (am 9 0), .int p1, .int p2, .int p3, .int p4] (fun v σ' => v = some (.int (f_X9_sales S σ p1 p2 p3 p4).1) ∧ σ' = (f_X9_sales S σ p1 p2 p3 p4).2) σ := by
  refine AM.of2 (own := RX9) (nm := "sales") (L0 := [(0, .ref (am 9 0)), (1, .int p1), (2, .int p2), (3, .int p3), (4, .int p4)]) (by decide) rfl rfl (Nat.le_of_ble_eq_true rfl) rfl ?_
  refine r_aload_n dX9_sales_0 rfl ?_
  refine r_iload_n dX9_sales_1 rfl ?_
  by_cases c1 : (f_X9_sheetAt S σ p1) = 0
  · refine x_callW (c := 9) (i := 0) hE (fun _ _ => rfl) (Nat.le_of_ble_eq_true rfl) dX9_sales_2 mf_X9_sheetAt ml_RX9_334 (ok_X9_sheetAt (d := d - 1) hE hX (by omega) _ _) rfl rfl rfl rfl (Nat.le_of_ble_eq_true rfl) (by omega) ?_
    rw [if_pos c1]
    refine r_astoreN dX9_sales_5 (by decide) ?_
    refine r_aloadN dX9_sales_7 rfl ?_
    refine r_ifnullN (tgt := 30) dX9_sales_9 (by decide) ?_
    refine r_bipush (v := (-2 : Int32)) dX9_sales_30 (by decide) ?_
    refine r_iret dX9_sales_32 rfl rfl ?_
    exact ⟨_, rfl, by rw [f_X9_sales, if_pos c1], by rw [f_X9_sales, if_pos c1]⟩
  · refine x_callW (c := 9) (i := 0) hE (fun _ _ => rfl) (Nat.le_of_ble_eq_true rfl) dX9_sales_2 mf_X9_sheetAt ml_RX9_334 (ok_X9_sheetAt (d := d - 1) hE hX (by omega) _ _) rfl rfl rfl rfl (Nat.le_of_ble_eq_true rfl) (by omega) ?_
    rw [if_neg c1]
    have lc1 := lv_X9_sheetAt c1
    refine r_astore dX9_sales_5 (by decide) ?_
    refine r_aload dX9_sales_7 rfl ?_
    refine r_ifnull dX9_sales_9 ?_
    refine r_iload_n dX9_sales_12 rfl ?_
    refine r_iconst (v := (2 : Int32)) dX9_sales_13 (by decide) ?_
    refine r_callS0 dX9_sales_14 mf_X9_isUpTo ml_RX9_106 (ok_X9_isUpTo (d := d - 1) (by omega) _ _) rfl rfl (Nat.le_of_ble_eq_true rfl) (by omega) ?_
    refine r_if_eq (tgt := 30) dX9_sales_17 (by decide) (fun c2 => ?_) (fun c2 => ?_)
    · refine r_bipush (v := (-2 : Int32)) dX9_sales_30 (by decide) ?_
      refine r_iret dX9_sales_32 rfl rfl ?_
      exact ⟨_, rfl, by rw [f_X9_sales, if_neg c1, if_pos c2], by rw [f_X9_sales, if_neg c1, if_pos c2]⟩
    · refine r_iload dX9_sales_20 rfl ?_
      refine r_bipush (v := (10 : Int32)) dX9_sales_22 (by decide) ?_
      refine r_callS0 dX9_sales_24 mf_X9_isUpTo ml_RX9_106 (ok_X9_isUpTo (d := d - 1) (by omega) _ _) rfl rfl (Nat.le_of_ble_eq_true rfl) (by omega) ?_
      refine r_if_ne (tgt := 33) dX9_sales_27 (by decide) (fun c3 => ?_) (fun c3 => ?_)
      · refine r_aload dX9_sales_33 rfl ?_
        refine x_getI (c := 6) (x := (σ.1 6 (Int32.toNatClampNeg p1) 1)) hE (fun _ _ => rfl) (fun _ => rfl) dX9_sales_35 fl_RX9_341 (by with_reducible assumption) rfl ?_
        refine r_iconst (v := (-1 : Int32)) dX9_sales_38 (by decide) ?_
        refine r_icmp_ne (tgt := 45) dX9_sales_39 (by decide) (fun c4 => ?_) (fun c4 => ?_)
        · refine r_aload dX9_sales_45 rfl ?_
          refine x_getI (c := 6) (x := (σ.1 6 (Int32.toNatClampNeg p1) 1)) hE (fun _ _ => rfl) (fun _ => rfl) dX9_sales_47 fl_RX9_341 (by with_reducible assumption) rfl ?_
          refine r_iload_n dX9_sales_50 rfl ?_
          refine r_icmp_eq (tgt := 57) dX9_sales_51 (by decide) (fun c5 => ?_) (fun c5 => ?_)
          · refine r_iconst (v := (0 : Int32)) dX9_sales_57 (by decide) ?_
            refine r_istore dX9_sales_58 (by decide) ?_
            refine r_iconst (v := (0 : Int32)) dX9_sales_60 (by decide) ?_
            refine r_istore dX9_sales_61 (by decide) ?_
            refine r_loc (L' := [(0, .ref (am 9 0)), (1, .int p1), (2, .int p2), (3, .int p3), (4, .int p4), (5, .ref (am 6 (Int32.toNatClampNeg p1))), (6, .int (0 : Int32)), (7, .int (0 : Int32))]) [3, 4, 5, 6, 7, 2, 1, 0] rfl ?_
            exact lp_X9_sales_63 hE hX (by omega) (12) σ p1 p2 p3 p4 (Int32.toNatClampNeg p1) (0 : Int32) (0 : Int32) (by exact h0) (by with_reducible assumption) (by exact up10 (by with_reducible assumption)) (by exact Ct.zero _) (by omega) ⟨by rw [f_X9_sales, if_neg c1, if_neg c2, if_neg c3, if_neg c4, if_pos c5], by rw [f_X9_sales, if_neg c1, if_neg c2, if_neg c3, if_neg c4, if_pos c5]⟩
          · refine r_bipush (v := (-13 : Int32)) dX9_sales_54 (by decide) ?_
            refine r_iret dX9_sales_56 rfl rfl ?_
            exact ⟨_, rfl, by rw [f_X9_sales, if_neg c1, if_neg c2, if_neg c3, if_neg c4, if_neg c5], by rw [f_X9_sales, if_neg c1, if_neg c2, if_neg c3, if_neg c4, if_neg c5]⟩
        · refine r_bipush (v := (-11 : Int32)) dX9_sales_42 (by decide) ?_
          refine r_iret dX9_sales_44 rfl rfl ?_
          exact ⟨_, rfl, by rw [f_X9_sales, if_neg c1, if_neg c2, if_neg c3, if_pos c4], by rw [f_X9_sales, if_neg c1, if_neg c2, if_neg c3, if_pos c4]⟩
      · refine r_bipush (v := (-2 : Int32)) dX9_sales_30 (by decide) ?_
        refine r_iret dX9_sales_32 rfl rfl ?_
        exact ⟨_, rfl, by rw [f_X9_sales, if_neg c1, if_neg c2, if_pos c3], by rw [f_X9_sales, if_neg c1, if_neg c2, if_pos c3]⟩

def f_X9_taken (S : XSh) (σ : XSt) (p1 : Int32) (p2 : Int32) : Int32 := (if (f_X9_isUpTo p2 (5 : Int32)) = 0 then (-2 : Int32) else (if (f_X9_bottleAt S σ p1) = 0 then (-11 : Int32) else (if (f_X9_isOfKind (σ.1 1 (Int32.toNatClampNeg p1) 0) p2) = 0 then (-13 : Int32) else (σ.1 8 (S 2 (Int32.toNatClampNeg p1)) 0))))
set_option maxRecDepth 100000 in
set_option maxHeartbeats 1000000 in
theorem ok_X9_taken {g : GC} {B : hH} {am : XAd} {S : XSh} {d : Nat} (hE : XOk am S) (hX : GX g) (hd : 2 ≤ d) (σ : XSt) (p1 : Int32) (p2 : Int32) (h0 : XInv S σ) : XC g B am S d yX9_taken cX9_taken 4 (some FieldType.int) [.ref (am 9 0), .int p1, .int p2] (fun v σ' => v = some (.int (f_X9_taken S σ p1 p2)) ∧ σ' = σ) σ := by
  refine AM.of2 (own := RX9) (nm := "taken") (L0 := [(0, .ref (am 9 0)), (1, .int p1), (2, .int p2)]) (by decide) rfl rfl (Nat.le_of_ble_eq_true rfl) rfl ?_
  refine r_iload_n dX9_taken_0 rfl ?_
  refine r_iconst (v := (5 : Int32)) dX9_taken_1 (by decide) ?_
  refine r_callS0 dX9_taken_2 mf_X9_isUpTo ml_RX9_106 (ok_X9_isUpTo (d := d - 1) (by omega) _ _) rfl rfl (Nat.le_of_ble_eq_true rfl) (by omega) ?_
  refine r_if_ne (tgt := 11) dX9_taken_5 (by decide) (fun c1 => ?_) (fun c1 => ?_)
  · refine r_aload_n dX9_taken_11 rfl ?_
    refine r_iload_n dX9_taken_12 rfl ?_
    by_cases c2 : (f_X9_bottleAt S σ p1) = 0
    · refine x_callW (c := 9) (i := 0) hE (fun _ _ => rfl) (Nat.le_of_ble_eq_true rfl) dX9_taken_13 mf_X9_bottleAt ml_RX9_148 (ok_X9_bottleAt (d := d - 1) hE hX (by omega) _ _ (by with_reducible assumption)) rfl rfl rfl rfl (Nat.le_of_ble_eq_true rfl) (by omega) ?_
      rw [if_pos c2]
      refine r_astore_nN dX9_taken_16 (by decide) ?_
      refine r_aload_nN dX9_taken_17 rfl ?_
      refine r_ifnonnullN dX9_taken_18 ?_
      refine r_bipush (v := (-11 : Int32)) dX9_taken_21 (by decide) ?_
      refine r_iret dX9_taken_23 rfl rfl ?_
      exact ⟨_, rfl, by rw [f_X9_taken, if_neg c1, if_pos c2], rfl⟩
    · refine x_callW (c := 9) (i := 0) hE (fun _ _ => rfl) (Nat.le_of_ble_eq_true rfl) dX9_taken_13 mf_X9_bottleAt ml_RX9_148 (ok_X9_bottleAt (d := d - 1) hE hX (by omega) _ _ (by with_reducible assumption)) rfl rfl rfl rfl (Nat.le_of_ble_eq_true rfl) (by omega) ?_
      rw [if_neg c2]
      have lc2 := lv_X9_bottleAt h0 c2
      refine r_astore_n dX9_taken_16 (by decide) ?_
      refine r_aload_n dX9_taken_17 rfl ?_
      refine r_ifnonnull (tgt := 24) dX9_taken_18 (by decide) ?_
      refine r_aload_n dX9_taken_24 rfl ?_
      refine x_getI (c := 1) (x := (σ.1 1 (Int32.toNatClampNeg p1) 0)) hE (fun _ _ => rfl) (fun _ => rfl) dX9_taken_25 fl_RX9_152 (by first | with_reducible assumption | exact h0.lab (by with_reducible assumption) | exact h0.ins (by with_reducible assumption)) rfl ?_
      refine r_iload_n dX9_taken_28 rfl ?_
      refine r_callS0 dX9_taken_29 mf_X9_isOfKind ml_RX9_229 (ok_X9_isOfKind (d := d - 1) hX (by omega) _ _) rfl rfl (Nat.le_of_ble_eq_true rfl) (by omega) ?_
      refine r_if_eq (tgt := 45) dX9_taken_32 (by decide) (fun c3 => ?_) (fun c3 => ?_)
      · refine r_bipush (v := (-13 : Int32)) dX9_taken_45 (by decide) ?_
        refine r_iret dX9_taken_47 rfl rfl ?_
        exact ⟨_, rfl, by rw [f_X9_taken, if_neg c1, if_neg c2, if_pos c3], rfl⟩
      · refine r_aload_n dX9_taken_35 rfl ?_
        refine x_get (c := 1) hE (fun _ _ => rfl) dX9_taken_36 fl_RX9_363 (by first | with_reducible assumption | exact h0.lab (by with_reducible assumption) | exact h0.ins (by with_reducible assumption)) rfl ?_
        refine x_getI (c := 8) (x := (σ.1 8 (S 2 (Int32.toNatClampNeg p1)) 0)) hE (fun _ _ => rfl) (fun _ => rfl) dX9_taken_39 fl_RX9_159 (by first | with_reducible assumption | exact h0.lab (by with_reducible assumption) | exact h0.ins (by with_reducible assumption)) rfl ?_
        refine r_goto (tgt := 47) dX9_taken_42 (by decide) ?_
        refine r_iret dX9_taken_47 rfl rfl ?_
        exact ⟨_, rfl, by rw [f_X9_taken, if_neg c1, if_neg c2, if_neg c3], rfl⟩
  · refine r_bipush (v := (-2 : Int32)) dX9_taken_8 (by decide) ?_
    refine r_iret dX9_taken_10 rfl rfl ?_
    exact ⟨_, rfl, by rw [f_X9_taken, if_pos c1], rfl⟩
