def f_X10_feed_L33 : Nat → MSt → Int32 → Int64 → Int32 → Int32 × MSt
  | 0, σ, _, _, _ => (0, σ)
  | n + 1, σ, l1, l2, l4 => (if l1 ≤ l4 then ((σ.1 6), σ) else (f_X10_feed_L33 n (mp (ma σ 5 (Int32.toNatClampNeg (σ.1 6)) (Int64.toInt32 ((l2 >>> (Int32.toInt64 ((8 : Int32) * l4) &&& 63)) &&& (255 : Int64)))) 6 (((ma σ 5 (Int32.toNatClampNeg (σ.1 6)) (Int64.toInt32 ((l2 >>> (Int32.toInt64 ((8 : Int32) * l4) &&& 63)) &&& (255 : Int64)))).1 6) + (1 : Int32))) l1 l2 (l4 + (1 : Int32))))
set_option maxRecDepth 100000 in
set_option maxHeartbeats 1000000 in
theorem lp_X10_feed_33 {g : GC} {E : ME} {d : Nat} {K : Option Value → MSt → Prop} (hE : MEok E) (hd : 1 ≤ d) : ∀ (fuel : Nat) (σ : MSt) (l1 : Int32) (l2 : Int64) (l4 : Int32), FInv (σ.1 6) l1 l4 → 9 - l4.toNatClampNeg < fuel → K (some (.int (f_X10_feed_L33 fuel σ l1 l2 l4).1)) (f_X10_feed_L33 fuel σ l1 l2 l4).2 → MW g E cX10_feed 5 (some FieldType.int) "feed" d K 33 [(0, .ref E.2.2), (1, .int l1), (2, .long l2), (4, .int l4)] [] σ := by
  intro fuel
  induction fuel with
  | zero => intro σ l1 l2 l4 i0 hm hK; exact absurd hm (Nat.not_lt_zero _)
  | succ n ih =>
    intro σ l1 l2 l4 i0 hm hK
    refine r_iload dX10_feed_33 rfl ?_
    refine r_iload_n dX10_feed_35 rfl ?_
    refine r_icmp_ge (tgt := 76) dX10_feed_36 (by decide) (fun c3 => ?_) (fun c3 => ?_)
    · refine r_aload_n dX10_feed_76 rfl ?_
      refine m_get dX10_feed_77 fl_RX10_240 rfl ?_
      refine r_iret dX10_feed_80 rfl rfl ?_
      exact ⟨_, rfl, by rw [f_X10_feed_L33, if_pos c3] at hK; exact hK⟩
    · refine r_aload_n dX10_feed_39 rfl ?_
      refine m_get dX10_feed_40 fl_RX10_20 rfl ?_
      refine r_aload_n dX10_feed_43 rfl ?_
      refine m_get dX10_feed_44 fl_RX10_240 rfl ?_
      refine r_lload_n dX10_feed_47 rfl ?_
      refine r_bipush (v := (8 : Int32)) dX10_feed_48 (by decide) ?_
      refine r_iload dX10_feed_50 rfl ?_
      refine r_imul dX10_feed_52 ?_
      refine r_lshr dX10_feed_53 ?_
      refine r_ldc2 dX10_feed_54 kc_RX10_144 ?_
      refine r_land dX10_feed_57 ?_
      refine r_l2i dX10_feed_58 ?_
      refine m_iast (k := 5) (N := 160) hE (by decide) rfl rfl dX10_feed_59 (by with_reducible exact (FInv.step i0 (by assumption)).1) ?_
      refine r_aload_n dX10_feed_60 rfl ?_
      refine r_dup dX10_feed_61 rfl ?_
      refine m_get dX10_feed_62 fl_RX10_240 rfl ?_
      refine r_iconst (v := (1 : Int32)) dX10_feed_65 (by decide) ?_
      refine r_iadd dX10_feed_66 ?_
      refine m_put hE dX10_feed_67 fp_RX10_240 rfl rfl rfl (by decide) ?_
      refine r_iinc2 (w := (1 : Int32)) dX10_feed_70 rfl (by decide) (by decide) ?_
      refine r_goto (tgt := 33) dX10_feed_73 (by decide) ?_
      refine r_loc (L' := [(0, .ref E.2.2), (1, .int l1), (2, .long l2), (4, .int (l4 + (1 : Int32)))]) [1, 2, 3, 0] rfl ?_
      exact ih (mp (ma σ 5 (Int32.toNatClampNeg (σ.1 6)) (Int64.toInt32 ((l2 >>> (Int32.toInt64 ((8 : Int32) * l4) &&& 63)) &&& (255 : Int64)))) 6 (((ma σ 5 (Int32.toNatClampNeg (σ.1 6)) (Int64.toInt32 ((l2 >>> (Int32.toInt64 ((8 : Int32) * l4) &&& 63)) &&& (255 : Int64)))).1 6) + (1 : Int32)))  l1 l2 (l4 + (1 : Int32)) (by exact (FInv.step i0 (by with_reducible assumption)).2.1) (by have u := (FInv.step i0 (by with_reducible assumption)).2.2; omega) (by rw [f_X10_feed_L33, if_neg c3] at hK; exact hK)
def f_X10_feed (σ : MSt) (p1 : Int32) (p2 : Int64) : Int32 × MSt := (if (f_X10_in (Int32.toInt64 p1) (1 : Int64) (8 : Int64)) = 0 then ((-2 : Int32), σ) else (if ((σ.1 6) + p1) ≤ (160 : Int32) then (f_X10_feed_L33 (10) σ p1 p2 (0 : Int32)) else ((-4 : Int32), σ)))
set_option maxRecDepth 100000 in
set_option maxHeartbeats 1000000 in
theorem ok_X10_feed {g : GC} {E : ME} {d : Nat} (hE : MEok E) (hd : 1 ≤ d) (σ : MSt) (p1 : Int32) (p2 : Int64) (h0 : MInv σ) : MC g E d yX10_feed cX10_feed 5 (some FieldType.int) [.int p1, .long p2] (fun v σ' => v = some (.int (f_X10_feed σ p1 p2).1) ∧ σ' = (f_X10_feed σ p1 p2).2) σ := by
  refine AM.of2 (own := RX10) (nm := "feed") (L0 := [(0, .ref E.2.2), (1, .int p1), (2, .long p2)]) (by decide) rfl rfl (Nat.le_of_ble_eq_true rfl) rfl ?_
  refine r_iload_n dX10_feed_0 rfl ?_
  refine r_i2l dX10_feed_1 ?_
  refine r_lconst (v := (1 : Int64)) dX10_feed_2 (by decide) ?_
  refine r_ldc2 dX10_feed_3 kc_RX10_238 ?_
  refine m_callS dX10_feed_6 mf_X10_in ml_RX10_149 (ok_X10_in (d := d - 1) (by omega) _ _ _) rfl rfl (Nat.le_of_ble_eq_true rfl) (by omega) ?_
  refine r_if_ne (tgt := 15) dX10_feed_9 (by decide) (fun c1 => ?_) (fun c1 => ?_)
  · refine r_aload_n dX10_feed_15 rfl ?_
    refine m_get dX10_feed_16 fl_RX10_240 rfl ?_
    refine r_iload_n dX10_feed_19 rfl ?_
    refine r_iadd dX10_feed_20 ?_
    refine r_sipush (v := (160 : Int32)) dX10_feed_21 (by decide) ?_
    refine r_icmp_le (tgt := 30) dX10_feed_24 (by decide) (fun c2 => ?_) (fun c2 => ?_)
    · refine r_iconst (v := (0 : Int32)) dX10_feed_30 (by decide) ?_
      refine r_istore dX10_feed_31 (by decide) ?_
      refine r_loc (L' := [(0, .ref E.2.2), (1, .int p1), (2, .long p2), (4, .int (0 : Int32))]) [1, 2, 3, 0] rfl ?_
      exact lp_X10_feed_33 hE (by omega) (10) σ p1 p2 (0 : Int32) (by exact FInv.first h0 (by with_reducible assumption) (by with_reducible assumption)) (by decide) ⟨by rw [f_X10_feed, if_neg c1, if_pos c2], by rw [f_X10_feed, if_neg c1, if_pos c2]⟩
    · refine r_bipush (v := (-4 : Int32)) dX10_feed_27 (by decide) ?_
      refine r_iret dX10_feed_29 rfl rfl ?_
      exact ⟨_, rfl, by rw [f_X10_feed, if_neg c1, if_neg c2], by rw [f_X10_feed, if_neg c1, if_neg c2]⟩
  · refine r_bipush (v := (-2 : Int32)) dX10_feed_12 (by decide) ?_
    refine r_iret dX10_feed_14 rfl rfl ?_
    exact ⟨_, rfl, by rw [f_X10_feed, if_pos c1], by rw [f_X10_feed, if_pos c1]⟩

theorem ct12 : Ct 12 12 := ⟨12, Nat.le_refl _, rfl⟩

def f_X10_image_L97 : Nat → MSt → Int32 → Int32 × MSt
  | 0, σ, _ => (0, σ)
  | n + 1, σ, l1 => (if (3 : Int32) ≤ l1 then ((σ.1 26), σ) else (f_X10_image_L97 n (ma σ 51 (Int32.toNatClampNeg l1) (σ.2.2 15 (Int32.toNatClampNeg l1))) (l1 + (1 : Int32))))
set_option maxRecDepth 100000 in
set_option maxHeartbeats 1000000 in
theorem lp_X10_image_97 {g : GC} {E : ME} {d : Nat} {K : Option Value → MSt → Prop} (hE : MEok E) (hd : 0 ≤ d) : ∀ (fuel : Nat) (σ : MSt) (l1 : Int32), Ct l1 3 → 4 - l1.toNatClampNeg < fuel → K (some (.int (f_X10_image_L97 fuel σ l1).1)) (f_X10_image_L97 fuel σ l1).2 → MW g E cX10_image 2 (some FieldType.int) "image" d K 97 [(0, .ref E.2.2), (1, .int l1)] [] σ := by
  intro fuel
  induction fuel with
  | zero => intro σ l1 i0 hm hK; exact absurd hm (Nat.not_lt_zero _)
  | succ n ih =>
    intro σ l1 i0 hm hK
    refine r_iload_n dX10_image_97 rfl ?_
    refine r_iconst (v := (3 : Int32)) dX10_image_98 (by decide) ?_
    refine r_icmp_ge (tgt := 120) dX10_image_99 (by decide) (fun c3 => ?_) (fun c3 => ?_)
    · refine r_aload_n dX10_image_120 rfl ?_
      refine m_get dX10_image_121 fl_RX10_232 rfl ?_
      refine r_iret dX10_image_124 rfl rfl ?_
      exact ⟨_, rfl, by rw [f_X10_image_L97, if_pos c3] at hK; exact hK⟩
    · refine r_aload_n dX10_image_102 rfl ?_
      refine m_get dX10_image_103 fl_RX10_101 rfl ?_
      refine r_iload_n dX10_image_106 rfl ?_
      refine r_aload_n dX10_image_107 rfl ?_
      refine m_get dX10_image_108 fl_RX10_44 rfl ?_
      refine r_iload_n dX10_image_111 rfl ?_
      refine m_iald (k := 15) (N := 3) hE (by decide) rfl rfl dX10_image_112 (by with_reducible first | exact (Ct.up (by decide) i0 i1 (by assumption)).1 | exact (Ct.up (by decide) ct12 i0 (by assumption)).1 | exact (Ct.up (by decide) ct3 i0 (by assumption)).1) ?_
      refine m_iast (k := 51) (N := 3) hE (by decide) rfl rfl dX10_image_113 (by with_reducible first | exact (Ct.up (by decide) i0 i1 (by assumption)).1 | exact (Ct.up (by decide) ct12 i0 (by assumption)).1 | exact (Ct.up (by decide) ct3 i0 (by assumption)).1) ?_
      refine r_iinc2 (w := (1 : Int32)) dX10_image_114 rfl (by decide) (by decide) ?_
      refine r_goto (tgt := 97) dX10_image_117 (by decide) ?_
      refine r_loc (L' := [(0, .ref E.2.2), (1, .int (l1 + (1 : Int32)))]) [1, 0] rfl ?_
      exact ih (ma σ 51 (Int32.toNatClampNeg l1) (σ.2.2 15 (Int32.toNatClampNeg l1)))  (l1 + (1 : Int32)) (by exact (Ct.up (by decide) ct3 i0 (by with_reducible assumption)).2.1) (by have u := (Ct.up (by decide) ct3 i0 (by with_reducible assumption)).2.2; omega) (by rw [f_X10_image_L97, if_neg c3] at hK; exact hK)
def f_X10_image_L59 : Nat → MSt → Int32 → Int32 × MSt
  | 0, σ, _ => (0, σ)
  | n + 1, σ, l1 => (if (12 : Int32) ≤ l1 then (f_X10_image_L97 (5) σ (0 : Int32)) else (f_X10_image_L59 n (ma (ma σ 49 (Int32.toNatClampNeg l1) (σ.2.2 13 (Int32.toNatClampNeg l1))) 50 (Int32.toNatClampNeg l1) ((ma σ 49 (Int32.toNatClampNeg l1) (σ.2.2 13 (Int32.toNatClampNeg l1))).2.2 14 (Int32.toNatClampNeg l1))) (l1 + (1 : Int32))))
set_option maxRecDepth 100000 in
set_option maxHeartbeats 1000000 in
theorem lp_X10_image_59 {g : GC} {E : ME} {d : Nat} {K : Option Value → MSt → Prop} (hE : MEok E) (hd : 0 ≤ d) : ∀ (fuel : Nat) (σ : MSt) (l1 : Int32), Ct l1 12 → 13 - l1.toNatClampNeg < fuel → K (some (.int (f_X10_image_L59 fuel σ l1).1)) (f_X10_image_L59 fuel σ l1).2 → MW g E cX10_image 2 (some FieldType.int) "image" d K 59 [(0, .ref E.2.2), (1, .int l1)] [] σ := by
  intro fuel
  induction fuel with
  | zero => intro σ l1 i0 hm hK; exact absurd hm (Nat.not_lt_zero _)
  | succ n ih =>
    intro σ l1 i0 hm hK
    refine r_iload_n dX10_image_59 rfl ?_
    refine r_bipush (v := (12 : Int32)) dX10_image_60 (by decide) ?_
    refine r_icmp_ge (tgt := 95) dX10_image_62 (by decide) (fun c2 => ?_) (fun c2 => ?_)
    · refine r_iconst (v := (0 : Int32)) dX10_image_95 (by decide) ?_
      refine r_istore_n dX10_image_96 (by decide) ?_
      refine r_loc (L' := [(0, .ref E.2.2), (1, .int (0 : Int32))]) [1, 0] rfl ?_
      exact lp_X10_image_97 hE (by omega) (5) σ (0 : Int32) (by exact Ct.zero _) (by decide) (by rw [f_X10_image_L59, if_pos c2] at hK; exact hK)
    · refine r_aload_n dX10_image_65 rfl ?_
      refine m_get dX10_image_66 fl_RX10_95 rfl ?_
      refine r_iload_n dX10_image_69 rfl ?_
      refine r_aload_n dX10_image_70 rfl ?_
      refine m_get dX10_image_71 fl_RX10_38 rfl ?_
      refine r_iload_n dX10_image_74 rfl ?_
      refine m_iald (k := 13) (N := 12) hE (by decide) rfl rfl dX10_image_75 (by with_reducible first | exact (Ct.up (by decide) i0 i1 (by assumption)).1 | exact (Ct.up (by decide) ct12 i0 (by assumption)).1 | exact (Ct.up (by decide) ct3 i0 (by assumption)).1) ?_
      refine m_iast (k := 49) (N := 12) hE (by decide) rfl rfl dX10_image_76 (by with_reducible first | exact (Ct.up (by decide) i0 i1 (by assumption)).1 | exact (Ct.up (by decide) ct12 i0 (by assumption)).1 | exact (Ct.up (by decide) ct3 i0 (by assumption)).1) ?_
      refine r_aload_n dX10_image_77 rfl ?_
      refine m_get dX10_image_78 fl_RX10_98 rfl ?_
      refine r_iload_n dX10_image_81 rfl ?_
      refine r_aload_n dX10_image_82 rfl ?_
      refine m_get dX10_image_83 fl_RX10_41 rfl ?_
      refine r_iload_n dX10_image_86 rfl ?_
      refine m_iald (k := 14) (N := 12) hE (by decide) rfl rfl dX10_image_87 (by with_reducible first | exact (Ct.up (by decide) i0 i1 (by assumption)).1 | exact (Ct.up (by decide) ct12 i0 (by assumption)).1 | exact (Ct.up (by decide) ct3 i0 (by assumption)).1) ?_
      refine m_iast (k := 50) (N := 12) hE (by decide) rfl rfl dX10_image_88 (by with_reducible first | exact (Ct.up (by decide) i0 i1 (by assumption)).1 | exact (Ct.up (by decide) ct12 i0 (by assumption)).1 | exact (Ct.up (by decide) ct3 i0 (by assumption)).1) ?_
      refine r_iinc2 (w := (1 : Int32)) dX10_image_89 rfl (by decide) (by decide) ?_
      refine r_goto (tgt := 59) dX10_image_92 (by decide) ?_
      refine r_loc (L' := [(0, .ref E.2.2), (1, .int (l1 + (1 : Int32)))]) [1, 0] rfl ?_
      exact ih (ma (ma σ 49 (Int32.toNatClampNeg l1) (σ.2.2 13 (Int32.toNatClampNeg l1))) 50 (Int32.toNatClampNeg l1) ((ma σ 49 (Int32.toNatClampNeg l1) (σ.2.2 13 (Int32.toNatClampNeg l1))).2.2 14 (Int32.toNatClampNeg l1)))  (l1 + (1 : Int32)) (by exact (Ct.up (by decide) ct12 i0 (by with_reducible assumption)).2.1) (by have u := (Ct.up (by decide) ct12 i0 (by with_reducible assumption)).2.2; omega) (by rw [f_X10_image_L59, if_neg c2] at hK; exact hK)
def f_X10_image_L31 : Nat → MSt → Int32 → Int32 × MSt
  | 0, σ, _ => (0, σ)
  | n + 1, σ, l1 => (if (σ.1 12) ≤ l1 then (f_X10_image_L59 (14) σ (0 : Int32)) else (f_X10_image_L31 n (ma σ 48 (Int32.toNatClampNeg l1) (σ.2.2 9 (Int32.toNatClampNeg l1))) (l1 + (1 : Int32))))
set_option maxRecDepth 100000 in
set_option maxHeartbeats 1000000 in
theorem lp_X10_image_31 {g : GC} {E : ME} {d : Nat} {K : Option Value → MSt → Prop} (hE : MEok E) (hd : 0 ≤ d) : ∀ (fuel : Nat) (σ : MSt) (l1 : Int32), Ct (σ.1 12) 8 → Ct l1 8 → 9 - l1.toNatClampNeg < fuel → K (some (.int (f_X10_image_L31 fuel σ l1).1)) (f_X10_image_L31 fuel σ l1).2 → MW g E cX10_image 2 (some FieldType.int) "image" d K 31 [(0, .ref E.2.2), (1, .int l1)] [] σ := by
  intro fuel
  induction fuel with
  | zero => intro σ l1 i0 i1 hm hK; exact absurd hm (Nat.not_lt_zero _)
  | succ n ih =>
    intro σ l1 i0 i1 hm hK
    refine r_iload_n dX10_image_31 rfl ?_
    refine r_aload_n dX10_image_32 rfl ?_
    refine m_get dX10_image_33 fl_RX10_146 rfl ?_
    refine r_icmp_ge (tgt := 57) dX10_image_36 (by decide) (fun c1 => ?_) (fun c1 => ?_)
    · refine r_iconst (v := (0 : Int32)) dX10_image_57 (by decide) ?_
      refine r_istore_n dX10_image_58 (by decide) ?_
      refine r_loc (L' := [(0, .ref E.2.2), (1, .int (0 : Int32))]) [1, 0] rfl ?_
      exact lp_X10_image_59 hE (by omega) (14) σ (0 : Int32) (by exact Ct.zero _) (by decide) (by rw [f_X10_image_L31, if_pos c1] at hK; exact hK)
    · refine r_aload_n dX10_image_39 rfl ?_
      refine m_get dX10_image_40 fl_RX10_92 rfl ?_
      refine r_iload_n dX10_image_43 rfl ?_
      refine r_aload_n dX10_image_44 rfl ?_
      refine m_get dX10_image_45 fl_RX10_29 rfl ?_
      refine r_iload_n dX10_image_48 rfl ?_
      refine m_iald (k := 9) (N := 8) hE (by decide) rfl rfl dX10_image_49 (by with_reducible first | exact (Ct.up (by decide) i0 i1 (by assumption)).1 | exact (Ct.up (by decide) ct12 i0 (by assumption)).1 | exact (Ct.up (by decide) ct3 i0 (by assumption)).1) ?_
      refine m_iast (k := 48) (N := 8) hE (by decide) rfl rfl dX10_image_50 (by with_reducible first | exact (Ct.up (by decide) i0 i1 (by assumption)).1 | exact (Ct.up (by decide) ct12 i0 (by assumption)).1 | exact (Ct.up (by decide) ct3 i0 (by assumption)).1) ?_
      refine r_iinc2 (w := (1 : Int32)) dX10_image_51 rfl (by decide) (by decide) ?_
      refine r_goto (tgt := 31) dX10_image_54 (by decide) ?_
      refine r_loc (L' := [(0, .ref E.2.2), (1, .int (l1 + (1 : Int32)))]) [1, 0] rfl ?_
      exact ih (ma σ 48 (Int32.toNatClampNeg l1) (σ.2.2 9 (Int32.toNatClampNeg l1)))  (l1 + (1 : Int32)) (by exact i0) (by exact (Ct.up (by decide) i0 i1 (by with_reducible assumption)).2.1) (by have u := (Ct.up (by decide) i0 i1 (by with_reducible assumption)).2.2; omega) (by rw [f_X10_image_L31, if_neg c1] at hK; exact hK)
def f_X10_image (σ : MSt)  : Int32 × MSt := (f_X10_image_L31 (10) (mp (mp (mp (mp σ 52 (1 : Int32)) 53 ((mp σ 52 (1 : Int32)).1 12)) 54 ((mp (mp σ 52 (1 : Int32)) 53 ((mp σ 52 (1 : Int32)).1 12)).1 26)) 55 ((mp (mp (mp σ 52 (1 : Int32)) 53 ((mp σ 52 (1 : Int32)).1 12)) 54 ((mp (mp σ 52 (1 : Int32)) 53 ((mp σ 52 (1 : Int32)).1 12)).1 26)).1 4)) (0 : Int32))
set_option maxRecDepth 100000 in
set_option maxHeartbeats 1000000 in
theorem ok_X10_image {g : GC} {E : ME} {d : Nat} (hE : MEok E) (hd : 0 ≤ d) (σ : MSt)  (h0 : MInv σ) : MC g E d yX10_image cX10_image 2 (some FieldType.int) [] (fun v σ' => v = some (.int (f_X10_image σ ).1) ∧ σ' = (f_X10_image σ ).2) σ := by
  refine AM.of2 (own := RX10) (nm := "image") (L0 := [(0, .ref E.2.2)]) (by decide) rfl rfl (Nat.le_of_ble_eq_true rfl) rfl ?_
  refine r_aload_n dX10_image_0 rfl ?_
  refine r_iconst (v := (1 : Int32)) dX10_image_1 (by decide) ?_
  refine m_put hE dX10_image_2 fp_RX10_428 (by decide) rfl rfl (by decide) ?_
  refine r_aload_n dX10_image_5 rfl ?_
  refine r_aload_n dX10_image_6 rfl ?_
  refine m_get dX10_image_7 fl_RX10_146 rfl ?_
  refine m_put hE dX10_image_10 fp_RX10_431 rfl rfl rfl (by decide) ?_
  refine r_aload_n dX10_image_13 rfl ?_
  refine r_aload_n dX10_image_14 rfl ?_
  refine m_get dX10_image_15 fl_RX10_232 rfl ?_
  refine m_put hE dX10_image_18 fp_RX10_434 rfl rfl rfl (by decide) ?_
  refine r_aload_n dX10_image_21 rfl ?_
  refine r_aload_n dX10_image_22 rfl ?_
  refine m_get dX10_image_23 fl_RX10_382 rfl ?_
  refine m_put hE dX10_image_26 fp_RX10_437 rfl rfl rfl (by decide) ?_
  refine r_iconst (v := (0 : Int32)) dX10_image_29 (by decide) ?_
  refine r_istore_n dX10_image_30 (by decide) ?_
  refine r_loc (L' := [(0, .ref E.2.2), (1, .int (0 : Int32))]) [1, 0] rfl ?_
  exact lp_X10_image_31 hE (by omega) (10) (mp (mp (mp (mp σ 52 (1 : Int32)) 53 ((mp σ 52 (1 : Int32)).1 12)) 54 ((mp (mp σ 52 (1 : Int32)) 53 ((mp σ 52 (1 : Int32)).1 12)).1 26)) 55 ((mp (mp (mp σ 52 (1 : Int32)) 53 ((mp σ 52 (1 : Int32)).1 12)) 54 ((mp (mp σ 52 (1 : Int32)) 53 ((mp σ 52 (1 : Int32)).1 12)).1 26)).1 4)) (0 : Int32) (by first | exact h0.nw | exact h0.iw) (by exact Ct.zero _) (by decide) ⟨by rw [f_X10_image], by rw [f_X10_image]⟩

def f_X10_back_L94 : Nat → MSt → Int32 → Int32 × MSt
  | 0, σ, _ => (0, σ)
  | n + 1, σ, l1 => (if (3 : Int32) ≤ l1 then ((σ.1 26), σ) else (f_X10_back_L94 n (ma σ 15 (Int32.toNatClampNeg l1) (σ.2.2 51 (Int32.toNatClampNeg l1))) (l1 + (1 : Int32))))
set_option maxRecDepth 100000 in
set_option maxHeartbeats 1000000 in
theorem lp_X10_back_94 {g : GC} {E : ME} {d : Nat} {K : Option Value → MSt → Prop} (hE : MEok E) (hd : 0 ≤ d) : ∀ (fuel : Nat) (σ : MSt) (l1 : Int32), Ct l1 3 → 4 - l1.toNatClampNeg < fuel → K (some (.int (f_X10_back_L94 fuel σ l1).1)) (f_X10_back_L94 fuel σ l1).2 → MW g E cX10_back 2 (some FieldType.int) "back" d K 94 [(0, .ref E.2.2), (1, .int l1)] [] σ := by
  intro fuel
  induction fuel with
  | zero => intro σ l1 i0 hm hK; exact absurd hm (Nat.not_lt_zero _)
  | succ n ih =>
    intro σ l1 i0 hm hK
    refine r_iload_n dX10_back_94 rfl ?_
    refine r_iconst (v := (3 : Int32)) dX10_back_95 (by decide) ?_
    refine r_icmp_ge (tgt := 117) dX10_back_96 (by decide) (fun c4 => ?_) (fun c4 => ?_)
    · refine r_aload_n dX10_back_117 rfl ?_
      refine m_get dX10_back_118 fl_RX10_232 rfl ?_
      refine r_iret dX10_back_121 rfl rfl ?_
      exact ⟨_, rfl, by rw [f_X10_back_L94, if_pos c4] at hK; exact hK⟩
    · refine r_aload_n dX10_back_99 rfl ?_
      refine m_get dX10_back_100 fl_RX10_44 rfl ?_
      refine r_iload_n dX10_back_103 rfl ?_
      refine r_aload_n dX10_back_104 rfl ?_
      refine m_get dX10_back_105 fl_RX10_101 rfl ?_
      refine r_iload_n dX10_back_108 rfl ?_
      refine m_iald (k := 51) (N := 3) hE (by decide) rfl rfl dX10_back_109 (by with_reducible first | exact (Ct.up (by decide) i0 i1 (by assumption)).1 | exact (Ct.up (by decide) ct12 i0 (by assumption)).1 | exact (Ct.up (by decide) ct3 i0 (by assumption)).1) ?_
      refine m_iast (k := 15) (N := 3) hE (by decide) rfl rfl dX10_back_110 (by with_reducible first | exact (Ct.up (by decide) i0 i1 (by assumption)).1 | exact (Ct.up (by decide) ct12 i0 (by assumption)).1 | exact (Ct.up (by decide) ct3 i0 (by assumption)).1) ?_
      refine r_iinc2 (w := (1 : Int32)) dX10_back_111 rfl (by decide) (by decide) ?_
      refine r_goto (tgt := 94) dX10_back_114 (by decide) ?_
      refine r_loc (L' := [(0, .ref E.2.2), (1, .int (l1 + (1 : Int32)))]) [1, 0] rfl ?_
      exact ih (ma σ 15 (Int32.toNatClampNeg l1) (σ.2.2 51 (Int32.toNatClampNeg l1)))  (l1 + (1 : Int32)) (by exact (Ct.up (by decide) ct3 i0 (by with_reducible assumption)).2.1) (by have u := (Ct.up (by decide) ct3 i0 (by with_reducible assumption)).2.2; omega) (by rw [f_X10_back_L94, if_neg c4] at hK; exact hK)
def f_X10_back_L56 : Nat → MSt → Int32 → Int32 × MSt
  | 0, σ, _ => (0, σ)
  | n + 1, σ, l1 => (if (12 : Int32) ≤ l1 then (f_X10_back_L94 (5) σ (0 : Int32)) else (f_X10_back_L56 n (ma (ma σ 13 (Int32.toNatClampNeg l1) (σ.2.2 49 (Int32.toNatClampNeg l1))) 14 (Int32.toNatClampNeg l1) ((ma σ 13 (Int32.toNatClampNeg l1) (σ.2.2 49 (Int32.toNatClampNeg l1))).2.2 50 (Int32.toNatClampNeg l1))) (l1 + (1 : Int32))))
set_option maxRecDepth 100000 in
set_option maxHeartbeats 1000000 in
theorem lp_X10_back_56 {g : GC} {E : ME} {d : Nat} {K : Option Value → MSt → Prop} (hE : MEok E) (hd : 0 ≤ d) : ∀ (fuel : Nat) (σ : MSt) (l1 : Int32), Ct l1 12 → 13 - l1.toNatClampNeg < fuel → K (some (.int (f_X10_back_L56 fuel σ l1).1)) (f_X10_back_L56 fuel σ l1).2 → MW g E cX10_back 2 (some FieldType.int) "back" d K 56 [(0, .ref E.2.2), (1, .int l1)] [] σ := by
  intro fuel
  induction fuel with
  | zero => intro σ l1 i0 hm hK; exact absurd hm (Nat.not_lt_zero _)
  | succ n ih =>
    intro σ l1 i0 hm hK
    refine r_iload_n dX10_back_56 rfl ?_
    refine r_bipush (v := (12 : Int32)) dX10_back_57 (by decide) ?_
    refine r_icmp_ge (tgt := 92) dX10_back_59 (by decide) (fun c3 => ?_) (fun c3 => ?_)
    · refine r_iconst (v := (0 : Int32)) dX10_back_92 (by decide) ?_
      refine r_istore_n dX10_back_93 (by decide) ?_
      refine r_loc (L' := [(0, .ref E.2.2), (1, .int (0 : Int32))]) [1, 0] rfl ?_
      exact lp_X10_back_94 hE (by omega) (5) σ (0 : Int32) (by exact Ct.zero _) (by decide) (by rw [f_X10_back_L56, if_pos c3] at hK; exact hK)
    · refine r_aload_n dX10_back_62 rfl ?_
      refine m_get dX10_back_63 fl_RX10_38 rfl ?_
      refine r_iload_n dX10_back_66 rfl ?_
      refine r_aload_n dX10_back_67 rfl ?_
      refine m_get dX10_back_68 fl_RX10_95 rfl ?_
      refine r_iload_n dX10_back_71 rfl ?_
      refine m_iald (k := 49) (N := 12) hE (by decide) rfl rfl dX10_back_72 (by with_reducible first | exact (Ct.up (by decide) i0 i1 (by assumption)).1 | exact (Ct.up (by decide) ct12 i0 (by assumption)).1 | exact (Ct.up (by decide) ct3 i0 (by assumption)).1) ?_
      refine m_iast (k := 13) (N := 12) hE (by decide) rfl rfl dX10_back_73 (by with_reducible first | exact (Ct.up (by decide) i0 i1 (by assumption)).1 | exact (Ct.up (by decide) ct12 i0 (by assumption)).1 | exact (Ct.up (by decide) ct3 i0 (by assumption)).1) ?_
      refine r_aload_n dX10_back_74 rfl ?_
      refine m_get dX10_back_75 fl_RX10_41 rfl ?_
      refine r_iload_n dX10_back_78 rfl ?_
      refine r_aload_n dX10_back_79 rfl ?_
      refine m_get dX10_back_80 fl_RX10_98 rfl ?_
      refine r_iload_n dX10_back_83 rfl ?_
      refine m_iald (k := 50) (N := 12) hE (by decide) rfl rfl dX10_back_84 (by with_reducible first | exact (Ct.up (by decide) i0 i1 (by assumption)).1 | exact (Ct.up (by decide) ct12 i0 (by assumption)).1 | exact (Ct.up (by decide) ct3 i0 (by assumption)).1) ?_
      refine m_iast (k := 14) (N := 12) hE (by decide) rfl rfl dX10_back_85 (by with_reducible first | exact (Ct.up (by decide) i0 i1 (by assumption)).1 | exact (Ct.up (by decide) ct12 i0 (by assumption)).1 | exact (Ct.up (by decide) ct3 i0 (by assumption)).1) ?_
      refine r_iinc2 (w := (1 : Int32)) dX10_back_86 rfl (by decide) (by decide) ?_
      refine r_goto (tgt := 56) dX10_back_89 (by decide) ?_
      refine r_loc (L' := [(0, .ref E.2.2), (1, .int (l1 + (1 : Int32)))]) [1, 0] rfl ?_
      exact ih (ma (ma σ 13 (Int32.toNatClampNeg l1) (σ.2.2 49 (Int32.toNatClampNeg l1))) 14 (Int32.toNatClampNeg l1) ((ma σ 13 (Int32.toNatClampNeg l1) (σ.2.2 49 (Int32.toNatClampNeg l1))).2.2 50 (Int32.toNatClampNeg l1)))  (l1 + (1 : Int32)) (by exact (Ct.up (by decide) ct12 i0 (by with_reducible assumption)).2.1) (by have u := (Ct.up (by decide) ct12 i0 (by with_reducible assumption)).2.2; omega) (by rw [f_X10_back_L56, if_neg c3] at hK; exact hK)
def f_X10_back_L28 : Nat → MSt → Int32 → Int32 × MSt
  | 0, σ, _ => (0, σ)
  | n + 1, σ, l1 => (if (σ.1 53) ≤ l1 then (f_X10_back_L56 (14) σ (0 : Int32)) else (f_X10_back_L28 n (ma σ 9 (Int32.toNatClampNeg l1) (σ.2.2 48 (Int32.toNatClampNeg l1))) (l1 + (1 : Int32))))
set_option maxRecDepth 100000 in
set_option maxHeartbeats 1000000 in
theorem lp_X10_back_28 {g : GC} {E : ME} {d : Nat} {K : Option Value → MSt → Prop} (hE : MEok E) (hd : 0 ≤ d) : ∀ (fuel : Nat) (σ : MSt) (l1 : Int32), Ct (σ.1 53) 8 → Ct l1 8 → 9 - l1.toNatClampNeg < fuel → K (some (.int (f_X10_back_L28 fuel σ l1).1)) (f_X10_back_L28 fuel σ l1).2 → MW g E cX10_back 2 (some FieldType.int) "back" d K 28 [(0, .ref E.2.2), (1, .int l1)] [] σ := by
  intro fuel
  induction fuel with
  | zero => intro σ l1 i0 i1 hm hK; exact absurd hm (Nat.not_lt_zero _)
  | succ n ih =>
    intro σ l1 i0 i1 hm hK
    refine r_iload_n dX10_back_28 rfl ?_
    refine r_aload_n dX10_back_29 rfl ?_
    refine m_get dX10_back_30 fl_RX10_431 rfl ?_
    refine r_icmp_ge (tgt := 54) dX10_back_33 (by decide) (fun c2 => ?_) (fun c2 => ?_)
    · refine r_iconst (v := (0 : Int32)) dX10_back_54 (by decide) ?_
      refine r_istore_n dX10_back_55 (by decide) ?_
      refine r_loc (L' := [(0, .ref E.2.2), (1, .int (0 : Int32))]) [1, 0] rfl ?_
      exact lp_X10_back_56 hE (by omega) (14) σ (0 : Int32) (by exact Ct.zero _) (by decide) (by rw [f_X10_back_L28, if_pos c2] at hK; exact hK)
    · refine r_aload_n dX10_back_36 rfl ?_
      refine m_get dX10_back_37 fl_RX10_29 rfl ?_
      refine r_iload_n dX10_back_40 rfl ?_
      refine r_aload_n dX10_back_41 rfl ?_
      refine m_get dX10_back_42 fl_RX10_92 rfl ?_
      refine r_iload_n dX10_back_45 rfl ?_
      refine m_iald (k := 48) (N := 8) hE (by decide) rfl rfl dX10_back_46 (by with_reducible first | exact (Ct.up (by decide) i0 i1 (by assumption)).1 | exact (Ct.up (by decide) ct12 i0 (by assumption)).1 | exact (Ct.up (by decide) ct3 i0 (by assumption)).1) ?_
      refine m_iast (k := 9) (N := 8) hE (by decide) rfl rfl dX10_back_47 (by with_reducible first | exact (Ct.up (by decide) i0 i1 (by assumption)).1 | exact (Ct.up (by decide) ct12 i0 (by assumption)).1 | exact (Ct.up (by decide) ct3 i0 (by assumption)).1) ?_
      refine r_iinc2 (w := (1 : Int32)) dX10_back_48 rfl (by decide) (by decide) ?_
      refine r_goto (tgt := 28) dX10_back_51 (by decide) ?_
      refine r_loc (L' := [(0, .ref E.2.2), (1, .int (l1 + (1 : Int32)))]) [1, 0] rfl ?_
      exact ih (ma σ 9 (Int32.toNatClampNeg l1) (σ.2.2 48 (Int32.toNatClampNeg l1)))  (l1 + (1 : Int32)) (by exact i0) (by exact (Ct.up (by decide) i0 i1 (by with_reducible assumption)).2.1) (by have u := (Ct.up (by decide) i0 i1 (by with_reducible assumption)).2.2; omega) (by rw [f_X10_back_L28, if_neg c2] at hK; exact hK)
def f_X10_back (σ : MSt)  : Int32 × MSt := (if (σ.1 52) = 0 then ((-3 : Int32), σ) else (f_X10_back_L28 (10) (mp (mp σ 26 (σ.1 54)) 4 ((mp σ 26 (σ.1 54)).1 55)) (0 : Int32)))
set_option maxRecDepth 100000 in
set_option maxHeartbeats 1000000 in
theorem ok_X10_back {g : GC} {E : ME} {d : Nat} (hE : MEok E) (hd : 0 ≤ d) (σ : MSt)  (h0 : MInv σ) : MC g E d yX10_back cX10_back 2 (some FieldType.int) [] (fun v σ' => v = some (.int (f_X10_back σ ).1) ∧ σ' = (f_X10_back σ ).2) σ := by
  refine AM.of2 (own := RX10) (nm := "back") (L0 := [(0, .ref E.2.2)]) (by decide) rfl rfl (Nat.le_of_ble_eq_true rfl) rfl ?_
  refine r_aload_n dX10_back_0 rfl ?_
  refine m_get dX10_back_1 fl_RX10_428 rfl ?_
  refine r_if_ne (tgt := 10) dX10_back_4 (by decide) (fun c1 => ?_) (fun c1 => ?_)
  · refine r_aload_n dX10_back_10 rfl ?_
    refine r_aload_n dX10_back_11 rfl ?_
    refine m_get dX10_back_12 fl_RX10_434 rfl ?_
    refine m_put hE dX10_back_15 fp_RX10_232 rfl rfl rfl (by decide) ?_
    refine r_aload_n dX10_back_18 rfl ?_
    refine r_aload_n dX10_back_19 rfl ?_
    refine m_get dX10_back_20 fl_RX10_437 rfl ?_
    refine m_put hE dX10_back_23 fp_RX10_382 rfl rfl rfl (by decide) ?_
    refine r_iconst (v := (0 : Int32)) dX10_back_26 (by decide) ?_
    refine r_istore_n dX10_back_27 (by decide) ?_
    refine r_loc (L' := [(0, .ref E.2.2), (1, .int (0 : Int32))]) [1, 0] rfl ?_
    exact lp_X10_back_28 hE (by omega) (10) (mp (mp σ 26 (σ.1 54)) 4 ((mp σ 26 (σ.1 54)).1 55)) (0 : Int32) (by first | exact h0.nw | exact h0.iw) (by exact Ct.zero _) (by decide) ⟨by rw [f_X10_back, if_neg c1], by rw [f_X10_back, if_neg c1]⟩
  · refine r_bipush (v := (-3 : Int32)) dX10_back_7 (by decide) ?_
    refine r_iret dX10_back_9 rfl rfl ?_
    exact ⟨_, rfl, by rw [f_X10_back, if_pos c1], by rw [f_X10_back, if_pos c1]⟩
