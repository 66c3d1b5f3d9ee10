/-- a rule more -/
def ruS (σ : XSt) (n : Nat) (pa oa : Int32) (fb : Nat → Int32) : XSt := (fun x i j => if x = 5 ∧ i = n then (match j with | 1 => pa | 2 => oa | _ => 0) else if x = 9 ∧ i = 0 ∧ j = 5 then nI (n + 1) else σ.1 x i j, fun x i j => if x = 32 ∧ i = n then fb j else σ.2 x i j)
def ruU (S : XSh) (n l : Nat) : XSh := SU (SU S 5 n l) 0 2 (n + 1)
def ruA (am : XAd) (n q1 q2 : Nat) : XAd := amU (amU am 32 n q2) 5 n q1
theorem ruU_1 (S : XSh) (n l i : Nat) : ruU S n l 1 i = S 1 i := by
  unfold ruU SU
  simp
theorem ruU_2 (S : XSh) (n l i : Nat) : ruU S n l 2 i = S 2 i := by
  unfold ruU SU
  simp
theorem ruU_0 (S : XSh) (n l i : Nat) : ruU S n l 0 i = if i = 2 then n + 1 else S 0 i := by
  unfold ruU SU
  simp
theorem ruU_5 (S : XSh) (n l i : Nat) : ruU S n l 5 i = if i = n then l else S 5 i := by
  unfold ruU SU
  simp
theorem ruA_o {am : XAd} {n q1 q2 c i : Nat} (h : ¬ (c = 5 ∧ i = n)) (h' : ¬ (c = 32 ∧ i = n)) : ruA am n q1 q2 c i = am c i := (amU_n h).trans (amU_n h')
theorem ruA_5 (am : XAd) (n q1 q2 : Nat) : ruA am n q1 q2 5 n = q1 := amU_s _ _ _ _
theorem ruA_32 (am : XAd) (n q1 q2 : Nat) : ruA am n q1 q2 32 n = q2 := (amU_n (fun z => by cases z.1)).trans (amU_s _ _ _ _)
theorem rule_heap {B : hH} {am : XAd} {S : XSh} {σ : XSt} {q1 q2 n l : Nat} {pa oa : Int32} {fb : Nat → Int32} (hE : XOk am S) (hn : S 0 2 = n) (hq1 : xH B am S σ q1 = none) (h12 : q2 ≠ q1) (hq2 : xH B am S σ q2 = none) : XOk (ruA am n q1 q2) (ruU S n l) ∧ hu (hu (hu (hu (xH B am S σ) q2 (.inl (0, l, .inl fb))) q1 (.inr (5, [.ref q2, .int pa, .int oa]))) (am 12 0) (.inl (5, 6, .inr (.inr (.inr (.inr (va_up (xR am 5 n) n (some q1)))))))) (am 9 0) (.inr (9, (xF am S 9 0 (σ.1 9 0)).set 5 (.int (nI (n + 1))))) = xH B (ruA am n q1 q2) (ruU S n l) (ruS σ n pa oa fb) := by
  have ho1 : ∀ x i, i < lim S x → am x i ≠ q1 := fun x i h z => by rw [← z, xH_at hE _ h] at hq1; cases hq1
  have ho2 : ∀ x i, i < lim S x → am x i ≠ q2 := fun x i h z => by rw [← z, xH_at hE _ h] at hq2; cases hq2
  have hlt : ∀ x i, i < lim (ruU S n l) x → (x = 5 ∧ i = n) ∨ (x = 32 ∧ i = n) ∨ ((¬ (x = 5 ∧ i = n) ∧ ¬ (x = 32 ∧ i = n)) ∧ i < lim S x) := by
    intro x i h
    unfold ruU at h
    rw [lim_5] at h
    by_cases z : x = 5 ∨ x = 32
    · rw [if_pos z] at h
      rcases Nat.lt_or_ge i n with y | y
      · refine Or.inr (Or.inr ⟨⟨fun z => by omega, fun z => by omega⟩, ?_⟩)
        rcases z with rfl | rfl
        · show i < S 0 2; omega
        · show i < S 0 2; omega
      · rcases z with rfl | rfl
        · exact Or.inl ⟨rfl, by omega⟩
        · exact Or.inr (Or.inl ⟨rfl, by omega⟩)
    · rw [if_neg z] at h
      exact Or.inr (Or.inr ⟨⟨fun y => z (Or.inl y.1), fun y => z (Or.inr y.1)⟩, h⟩)
  have hok : XOk (ruA am n q1 q2) (ruU S n l) := by
    intro x i x' i' h h' he
    rcases hlt x i h with ⟨rfl, rfl⟩ | ⟨rfl, rfl⟩ | ⟨z, h1⟩ <;> rcases hlt x' i' h' with ⟨rfl, rfl⟩ | ⟨rfl, rfl⟩ | ⟨z', h1'⟩
    · exact ⟨rfl, rfl⟩
    · rw [ruA_5, ruA_32] at he; exact absurd he.symm h12
    · rw [ruA_5, ruA_o z'.1 z'.2] at he; exact absurd he.symm (ho1 _ _ h1')
    · rw [ruA_5, ruA_32] at he; exact absurd he h12
    · exact ⟨rfl, rfl⟩
    · rw [ruA_32, ruA_o z'.1 z'.2] at he; exact absurd he.symm (ho2 _ _ h1')
    · rw [ruA_5, ruA_o z.1 z.2] at he; exact absurd he (ho1 _ _ h1)
    · rw [ruA_32, ruA_o z.1 z.2] at he; exact absurd he (ho2 _ _ h1)
    · rw [ruA_o z.1 z.2, ruA_o z'.1 z'.2] at he; exact hE _ _ _ _ h1 h1' he
  have l12 : 0 < lim S 12 := Nat.le_of_ble_eq_true rfl
  have l9 : 0 < lim S 9 := Nat.le_of_ble_eq_true rfl
  refine ⟨hok, xH_ext hok (fun x i h => ?_) (fun a' h => ?_)⟩
  · rcases hlt x i h with ⟨rfl, rfl⟩ | ⟨rfl, rfl⟩ | ⟨z, h1⟩
    · rw [ruA_5, hu_ne (Ne.symm (ho1 9 0 l9)), hu_ne (Ne.symm (ho1 12 0 l12)), hu_eq]
      refine congrArg some ?_
      show _ = Sum.inr (5, xF (ruA am i q1 q2) (ruU S i l) 5 i (fun j => if 5 = 5 ∧ i = i then _ else _))
      simp [xF, ruA_32]
    · rw [ruA_32, hu_ne (Ne.symm (ho2 9 0 l9)), hu_ne (Ne.symm (ho2 12 0 l12)), hu_ne h12, hu_eq]
      refine congrArg some ?_
      show _ = Sum.inl (0, ruU S i l 5 i, Sum.inl (fun j => if 32 = 32 ∧ i = i then fb j else _))
      rw [ruU_5, if_pos rfl]
      simp
    · rw [ruA_o z.1 z.2]
      by_cases z9 : x = 9
      · subst z9
        have i0 : i = 0 := by have : i < 1 := h1; omega
        subst i0
        rw [hu_eq]
        refine congrArg some ?_
        show _ = yE _ _ 9 0 _ _
        rw [yE_cg (am := am) (S := S) (fun c' i' _ _ y y' => ruA_o (fun u => y u.1) (fun u => y' u.1)) (fun u => by cases u) (fun u => by cases u) (fun u => by cases u) (fun u => by cases u) (fun u => by cases u) (fun u => by cases u)]
        rfl
      · have n9 : am x i ≠ am 9 0 := fun y => z9 (hE _ _ _ _ h1 l9 y).1
        rw [hu_ne n9]
        by_cases z10 : x = 12
        · subst z10
          have i0 : i = 0 := by have : i < 1 := h1; omega
          subst i0
          rw [hu_eq, xR_up]
          refine congrArg some ?_
          show _ = Sum.inl (5, 6, Sum.inr (Sum.inr (Sum.inr (Sum.inr (xR (ruA am n q1 q2) 5 (ruU S n l 0 2))))))
          rw [ruU_0, if_pos rfl]
          have ex : xR (ruA am n q1 q2) 5 (n + 1) = xR (amU am 5 n q1) 5 (n + 1) := xR_cg (fun j _ => by
            unfold ruA amU
            simp)
          rw [ex]
        · have n10 : am x i ≠ am 12 0 := fun y => z10 (hE _ _ _ _ h1 l12 y).1
          rw [hu_ne n10, hu_ne (ho1 _ _ h1), hu_ne (ho2 _ _ h1), xH_at hE _ h1]
          refine congrArg some ?_
          have e1 : (ruS σ n pa oa fb).1 x i = σ.1 x i := by
            funext j
            show (if x = 5 ∧ i = n then _ else if x = 9 ∧ i = 0 ∧ j = 5 then _ else _) = _
            rw [if_neg z.1, if_neg (fun y => z9 y.1)]
          have e2 : (ruS σ n pa oa fb).2 x i = σ.2 x i := by
            funext j
            show (if x = 32 ∧ i = n then _ else _) = _
            rw [if_neg z.2]
          show yE am S x i (σ.1 x i) (σ.2 x i) = yE (ruA am n q1 q2) (ruU S n l) x i ((ruS σ n pa oa fb).1 x i) ((ruS σ n pa oa fb).2 x i)
          rw [e1, e2]
          refine (yE_cg (am := am) (am' := ruA am n q1 q2) (S := S) (S' := ruU S n l) (fun c' i' _ _ y y' => ruA_o (fun u => y u.1) (fun u => y' u.1)) (fun u => ?_) (fun u => ?_) (fun u => ?_) (fun u => ?_) (fun u => absurd u z10) (fun u => ?_) _ _).symm
          · rw [ruU_1, ruU_2]
            exact ⟨ruA_o (fun y => by cases y.1) (fun y => by cases y.1), ruA_o (fun y => by cases y.1) (fun y => by cases y.1)⟩
          · exact ruA_o (fun y => by cases y.1) (fun y => z.1 ⟨u, y.2⟩)
          · rw [ruU_0, if_neg (by decide)]
            exact xR_cg (fun j _ => ruA_o (fun y => by cases y.1) (fun y => by cases y.1))
          · rw [ruU_0, if_neg (by decide)]
            exact xR_cg (fun j _ => ruA_o (fun y => by cases y.1) (fun y => by cases y.1))
          · rw [ruU_5, if_neg (fun y => z.2 ⟨u, y⟩)]
  · have q5 : a' ≠ q1 := fun z => h 5 n (by unfold ruU; rw [lim_5, if_pos (Or.inl rfl)]; omega) ((ruA_5 _ _ _ _).trans z.symm)
    have q32 : a' ≠ q2 := fun z => h 32 n (by unfold ruU; rw [lim_5, if_pos (Or.inr rfl)]; omega) ((ruA_32 _ _ _ _).trans z.symm)
    have hall : ∀ x i, i < lim S x → am x i ≠ a' := by
      intro x i h1 z
      have y5 : ¬ (x = 5 ∧ i = n) := fun y => by obtain ⟨rfl, rfl⟩ := y; have : i < S 0 2 := h1; omega
      have y32 : ¬ (x = 32 ∧ i = n) := fun y => by obtain ⟨rfl, rfl⟩ := y; have : i < S 0 2 := h1; omega
      refine h x i ?_ ((ruA_o y5 y32).trans z)
      unfold ruU
      rw [lim_5]
      split
      · next e => rcases e with rfl | rfl
                  · have : i < S 0 2 := h1; omega
                  · have : i < S 0 2 := h1; omega
      · exact h1
    rw [hu_ne (Ne.symm (hall 9 0 l9)), hu_ne (Ne.symm (hall 12 0 l12)), hu_ne q5, hu_ne q32, xH_out hall]
def txK (B : hH) (am : XAd) (S : XSh) (σ : XSt) (t : TB) (v : Option Value) (h' : hH) : Prop :=
  (6 ≤ S 0 2 ∧ v = some (.int (-4)) ∧ h' = xH B am S σ) ∨ (S 0 2 < 6 ∧ match textG t with
    | .error y => y ≤ 160 ∧ v = some (.int (-100 - nI y)) ∧ ∃ σ', h' = xH B am S σ' ∧ RdS σ σ'
    | .ok r => v = some (.int (nI (S 0 2))) ∧ (r.1.1 ++ r.2.1.1 ++ r.2.2.1).length ≤ 160 ∧ ∃ (q1 q2 : Nat) (fb : Nat → Int32) (σ' : XSt), XOk (ruA am (S 0 2) q1 q2) (ruU S (S 0 2) (r.1.1 ++ r.2.1.1 ++ r.2.2.1).length) ∧ (∀ x i, i < lim S x → am x i ≠ q1 ∧ am x i ≠ q2) ∧ B q1 = none ∧ B q2 = none ∧ h' = xH B (ruA am (S 0 2) q1 q2) (ruU S (S 0 2) (r.1.1 ++ r.2.1.1 ++ r.2.2.1).length) (ruS σ' (S 0 2) (nI r.1.1.length) (nI (r.1.1 ++ r.2.1.1).length) fb) ∧ (∀ j, j < (r.1.1 ++ r.2.1.1 ++ r.2.2.1).length → fb j = (r.1.1 ++ r.2.1.1 ++ r.2.2.1).getD j 0) ∧ RdS σ σ')
set_option maxRecDepth 100000 in
set_option maxHeartbeats 2000000 in
theorem mk_X9_text {g : GC} {B : hH} {am : XAd} {S : XSh} {d : Nat} (hE : XOk am S) (hX : GX g) (hd : 51 ≤ d) (σ : XSt) (t : TB) (hT : XT σ t) (h0 : XInv S σ) : AM g d 2 1003 yX9_text cX9_text 2 (some .int) [.ref (am 9 0)] (xH B am S σ) (txK B am S σ t) := by
  have l12 : 0 < lim S 12 := Nat.le_of_ble_eq_true rfl
  have l9 : 0 < lim S 9 := Nat.le_of_ble_eq_true rfl
  refine AM.of2 (own := RX9) (nm := "text") (L0 := [(0, .ref (am 9 0))]) (by decide) rfl rfl (Nat.le_of_ble_eq_true rfl) rfl ?_
  refine r_aload_n dX9_text_0 rfl ?_
  refine v_getI (c := 9) (x := nI (S 0 2)) hE (fun _ _ => rfl) (fun _ => rfl) dX9_text_1 fl_RX9_102 l9 h0.nr.1 ?_
  refine r_bipush (v := (6 : Int32)) dX9_text_4 (by decide) ?_
  refine r_icmp_lt (tgt := 12) dX9_text_6 (by decide) (fun c1 => ?_) (fun c1 => ?_)
  · have hlt : S 0 2 < 6 := by
      rcases Nat.lt_or_ge (S 0 2) 6 with q | q
      · exact q
      · exact absurd c1 (Int32.not_lt.mpr (nI_le (a := 6) q (by have := h0.nr.2; omega)))
    refine r_aload_n dX9_text_12 rfl ?_
    refine v_get (c := 9) hE (fun _ _ => rfl) dX9_text_13 fl_RX9_44 l9 rfl ?_
    refine r_callV (As := []) (d1 := d - 1) (c1 := 2) (n1 := 1003) (ci := 4) dX9_text_16 mf_X4_read ml_RX9_98 (mk_X4_read hE hX (by omega) σ t hT) ((xH_at hE σ (c := 4) (i := 0) (Nat.le_of_ble_eq_true rfl))) rfl rfl rfl rfl (Nat.le_of_ble_eq_true rfl) (by omega) (Nat.le_refl _) (Nat.le_refl _) (fun v h' hh => ?_)
    unfold RdK at hh
    cases ee : textG t with
    | error y =>
      rw [ee] at hh
      obtain ⟨rfl, s1, rfl, hy, hf, hR⟩ := hh
      refine r_astore_nN dX9_text_19 (by decide) ?_
      refine r_aload_nN dX9_text_20 rfl ?_
      refine r_ifnonnullN dX9_text_21 ?_
      refine r_bipush (v := (-100 : Int32)) dX9_text_24 (by decide) ?_
      refine r_aload_n dX9_text_26 rfl ?_
      refine v_get (c := 9) hE (fun _ _ => rfl) dX9_text_27 fl_RX9_44 l9 rfl ?_
      refine v_getI (c := 4) (x := nI y) hE (fun _ _ => rfl) (fun _ => rfl) dX9_text_30 fl_RX9_210 (Nat.le_of_ble_eq_true rfl) hf ?_
      refine r_isub dX9_text_33 ?_
      refine r_iret dX9_text_34 rfl rfl ?_
      unfold txK
      rw [ee]
      exact Or.inr ⟨hlt, hy, rfl, s1, rfl, hR⟩
    | ok r =>
      rw [ee] at hh
      obtain ⟨q1, q2, fb, s1, rfl, hq1, h12, hq2, rfl, hl, hfb, hR⟩ := hh
      have ho1 : ∀ x i, i < lim S x → am x i ≠ q1 := fun x i h z => by rw [← z, xH_at hE _ h] at hq1; cases hq1
      have ho2 : ∀ x i, i < lim S x → am x i ≠ q2 := fun x i h z => by rw [← z, xH_at hE _ h] at hq2; cases hq2
      have hB1 : B q1 = none := by rw [← hq1]; exact (xH_out ho1).symm
      have hB2 : B q2 = none := by rw [← hq2]; exact (xH_out ho2).symm
      have hnr : s1.1 9 0 5 = nI (S 0 2) := (hR.2.1 9 0 5 (by decide)).trans h0.nr.1
      have h912 : am 9 0 ≠ am 12 0 := fun z => absurd (hE _ _ _ _ l9 l12 z).1 (by decide)
      have hx9 : ∀ e1 e2 : (Nat × vp_A) ⊕ (Nat × List Value), hu (hu (xH B am S s1) q2 e1) q1 e2 (am 9 0) = some (.inr (9, xF am S 9 0 (s1.1 9 0))) := fun e1 e2 => by rw [hu_ne (ho1 9 0 l9), hu_ne (ho2 9 0 l9)]; exact xH_at hE s1 (c := 9) (i := 0) l9
      refine r_astore_n dX9_text_19 (by decide) ?_
      refine r_aload_n dX9_text_20 rfl ?_
      refine r_ifnonnull (tgt := 35) dX9_text_21 (by decide) ?_
      refine r_aload_n dX9_text_35 rfl ?_
      refine r_getf (v := .ref (am 12 0)) dX9_text_36 fl_RX9_23 (hx9 _ _) rfl ?_
      refine r_aload_n dX9_text_39 rfl ?_
      refine r_getf (v := .int (nI (S 0 2))) dX9_text_40 fl_RX9_102 (hx9 _ _) (congrArg (fun x => some (Value.int x)) hnr) ?_
      refine r_aload_n dX9_text_43 rfl ?_
      refine r_aast (t0 := 5) (ci := 5) dX9_text_44 (by rw [hu_ne (ho1 12 0 l12), hu_ne (ho2 12 0 l12)]; exact xH_at hE s1 (c := 12) (i := 0) l12) rfl (hu_eq _ _ _) rfl (vp_in_nI hlt (by decide)) ?_
      rw [nI_clamp (by omega)]
      refine r_aload_n dX9_text_45 rfl ?_
      refine r_dup dX9_text_46 rfl ?_
      refine r_getf (v := .int (nI (S 0 2))) dX9_text_47 fl_RX9_102 (by rw [hu_ne h912]; exact hx9 _ _) (congrArg (fun x => some (Value.int x)) hnr) ?_
      refine r_iconst (v := (1 : Int32)) dX9_text_50 (by decide) ?_
      refine r_iadd dX9_text_51 ?_
      rw [nI_1]
      refine r_putf (ci := 9) (k := 5) dX9_text_52 fp_RX9_102 (by rw [hu_ne h912]; exact hx9 _ _) rfl rfl (Nat.le_of_ble_eq_true rfl) ?_
      refine r_aload_n dX9_text_55 rfl ?_
      refine r_getf (v := .int (nI (S 0 2 + 1))) dX9_text_56 fl_RX9_102 (hu_eq _ _ _) rfl ?_
      refine r_iconst (v := (1 : Int32)) dX9_text_59 (by decide) ?_
      refine r_isub dX9_text_60 ?_
      rw [nI_pred]
      refine r_iret dX9_text_61 rfl rfl ?_
      unfold txK
      rw [ee]
      obtain ⟨ok, eh⟩ := rule_heap (l := (r.1.1 ++ r.2.1.1 ++ r.2.2.1).length) (pa := nI r.1.1.length) (oa := nI (r.1.1 ++ r.2.1.1).length) (fb := fb) hE rfl hq1 h12 hq2
      exact Or.inr ⟨hlt, rfl, hl, q1, q2, fb, s1, ok, fun x i h => ⟨ho1 x i h, ho2 x i h⟩, hB1, hB2, eh, hfb, hR⟩
  · refine r_bipush (v := (-4 : Int32)) dX9_text_9 (by decide) ?_
    refine r_iret dX9_text_11 rfl rfl ?_
    exact Or.inl ⟨(nI_leI (a := 6) (by decide) (by have := h0.nr.2; omega)).mp (Int32.not_lt.mp c1), rfl, rfl⟩
