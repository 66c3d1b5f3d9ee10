/-- a bottle more -/
def boS (σ : XSt) (n : Nat) (k sh : Int32) : XSt := (fun x i j => if x = 1 ∧ i = n then (match j with | 0 => k | 3 => sh | 5 => -1 | _ => 0) else if x = 9 ∧ i = 0 ∧ j = 3 then nI (n + 1) else σ.1 x i j, σ.2)
def boU (S : XSh) (n l m : Nat) : XSh := SU (SU (SU S 1 n l) 2 n m) 0 1 (n + 1)
theorem boU_1 (S : XSh) (n l m i : Nat) : boU S n l m 1 i = if i = n then l else S 1 i := by
  unfold boU SU
  simp
theorem boU_2 (S : XSh) (n l m i : Nat) : boU S n l m 2 i = if i = n then m else S 2 i := by
  unfold boU SU
  simp
theorem boU_0 (S : XSh) (n l m i : Nat) : boU S n l m 0 i = if i = 1 then n + 1 else S 0 i := by
  unfold boU SU
  simp
theorem boU_5 (S : XSh) (n l m i : Nat) : boU S n l m 5 i = S 5 i := by
  unfold boU SU
  simp
theorem bottle_heap {B : hH} {am : XAd} {S : XSh} {σ : XSt} {q n l m : Nat} {k sh : Int32} (hE : XOk am S) (hn : S 0 1 = n) (hq : xH B am S σ q = none) : XOk (amU am 1 n q) (boU S n l m) ∧ hu (hu (hu (xH B am S σ) q (.inr (1, [.int k, .ref (am 8 l), .ref (am 8 m), .int sh, .int 0, .int (-1), .int 0, .int 0, .int 0]))) (am 11 0) (.inl (4, 24, .inr (.inr (.inr (.inr (va_up (xR am 1 n) n (some q)))))))) (am 9 0) (.inr (9, (xF am S 9 0 (σ.1 9 0)).set 3 (.int (nI (n + 1))))) = xH B (amU am 1 n q) (boU S n l m) (boS σ n k sh) := by
  have hout : ∀ x i, i < lim S x → am x i ≠ q := fun x i h z => by rw [← z, xH_at hE _ h] at hq; cases hq
  have hlt : ∀ x i, i < lim (boU S n l m) x → (x = 1 ∧ i = n) ∨ (¬ (x = 1 ∧ i = n) ∧ i < lim S x) := by
    intro x i h
    unfold boU at h
    rw [lim_1] at h
    by_cases z : x = 1
    · subst z
      rw [if_pos rfl] at h
      rcases Nat.lt_or_ge i n with y | y
      · exact Or.inr ⟨fun z => by omega, by show i < S 0 1; omega⟩
      · exact Or.inl ⟨rfl, by omega⟩
    · rw [if_neg z] at h
      exact Or.inr ⟨fun y => z y.1, h⟩
  have hok : XOk (amU am 1 n q) (boU S n l m) := by
    intro x i x' i' h h' he
    rcases hlt x i h with ⟨rfl, rfl⟩ | ⟨z, h1⟩ <;> rcases hlt x' i' h' with ⟨rfl, rfl⟩ | ⟨z', h1'⟩
    · exact ⟨rfl, rfl⟩
    · rw [amU_s, amU_n z'] at he; exact absurd he.symm (hout _ _ h1')
    · rw [amU_s, amU_n z] at he; exact absurd he (hout _ _ h1)
    · rw [amU_n z, amU_n z'] at he; exact hE _ _ _ _ h1 h1' he
  have h10 := hout 11 0 (Nat.le_of_ble_eq_true rfl)
  have h9 := hout 9 0 (Nat.le_of_ble_eq_true rfl)
  refine ⟨hok, xH_ext hok (fun x i h => ?_) (fun a' h => ?_)⟩
  · rcases hlt x i h with ⟨rfl, rfl⟩ | ⟨z, h1⟩
    · rw [amU_s, hu_ne (Ne.symm h9), hu_ne (Ne.symm h10), hu_eq]
      refine congrArg some ?_
      show _ = Sum.inr (1, xF (amU am 1 i q) (boU S i l m) 1 i (fun j => if 1 = 1 ∧ i = i then _ else _))
      simp [xF, boU_1, boU_2, amU]
    · rw [amU_n z]
      by_cases z9 : x = 9
      · subst z9
        have i0 : i = 0 := by have : i < 1 := h1; omega
        subst i0
        rw [hu_eq]
        refine congrArg some ?_
        show _ = yE _ _ 9 0 _ _
        rw [yE_cg (am := am) (S := S) (fun c' i' _ y _ _ => amU_n (fun u => y u.1)) (fun u => by cases u) (fun u => by cases u) (fun u => by cases u) (fun u => by cases u) (fun u => by cases u) (fun u => by cases u)]
        rfl
      · have n9 : am x i ≠ am 9 0 := fun y => z9 (hE _ _ _ _ h1 (Nat.le_of_ble_eq_true rfl) y).1
        rw [hu_ne n9]
        by_cases z10 : x = 11
        · subst z10
          have i0 : i = 0 := by have : i < 1 := h1; omega
          subst i0
          rw [hu_eq, xR_up]
          refine congrArg some ?_
          show _ = Sum.inl (4, 24, Sum.inr (Sum.inr (Sum.inr (Sum.inr (xR (amU am 1 n q) 1 (boU S n l m 0 1))))))
          rw [boU_0, if_pos rfl]
        · have n10 : am x i ≠ am 11 0 := fun y => z10 (hE _ _ _ _ h1 (Nat.le_of_ble_eq_true rfl) y).1
          rw [hu_ne n10, hu_ne (hout _ _ h1), xH_at hE _ h1]
          refine congrArg some ?_
          have e1 : (boS σ n k sh).1 x i = σ.1 x i := by
            funext j
            show (if x = 1 ∧ i = n then _ else if x = 9 ∧ i = 0 ∧ j = 3 then _ else _) = _
            rw [if_neg z, if_neg (fun y => z9 y.1)]
          show yE am S x i (σ.1 x i) (σ.2 x i) = yE (amU am 1 n q) (boU S n l m) x i ((boS σ n k sh).1 x i) (σ.2 x i)
          rw [e1]
          refine (yE_cg (am := am) (am' := amU am 1 n q) (S := S) (S' := boU S n l m) (fun c' i' _ y _ _ => amU_n (fun u => y u.1)) (fun u => ?_) (fun u => rfl) (fun u => ?_) (fun u => absurd u z10) (fun u => ?_) (fun u => boU_5 _ _ _ _ _) _ _).symm
          · subst u
            have hin : i ≠ n := fun y => z ⟨rfl, y⟩
            rw [boU_1, boU_2, if_neg hin, if_neg hin]
            exact ⟨amU_n (fun y => by cases y.1), amU_n (fun y => by cases y.1)⟩
          · rw [boU_0, if_neg (by decide)]
            exact xR_cg (fun j _ => amU_n (fun y => by cases y.1))
          · rw [boU_0, if_neg (by decide)]
            exact xR_cg (fun j _ => amU_n (fun y => by cases y.1))
  · have hq' : a' ≠ q := fun z => h 1 n (by unfold boU; rw [lim_1, if_pos rfl]; omega) ((amU_s _ _ _ _).trans z.symm)
    have hall : ∀ x i, i < lim S x → am x i ≠ a' := by
      intro x i h1 z
      by_cases y : x = 1 ∧ i = n
      · obtain ⟨rfl, rfl⟩ := y
        have : i < S 0 1 := h1
        omega
      · refine h x i ?_ ((amU_n y).trans z)
        unfold boU
        rw [lim_1]
        split
        · next e => subst e; have : i < S 0 1 := h1; omega
        · exact h1
    rw [hu_ne (Ne.symm (hall 9 0 (Nat.le_of_ble_eq_true rfl))), hu_ne (Ne.symm (hall 11 0 (Nat.le_of_ble_eq_true rfl))), hu_ne hq', xH_out hall]
/-- whether a bottle is refused -/
def boBad (S : XSh) (σ : XSt) (k two p : Int32) : Prop := f_X9_isUpTo k 5 = 0 ∨ two < 0 ∨ f_X9_wineAt S σ (two / 10) = 0 ∨ f_X9_wineAt S σ (two - two / 10 * 10) = 0 ∨ f_X9_areParts p = 0
def boK (B : hH) (am : XAd) (S : XSh) (σ : XSt) (k two p : Int32) (v : Option Value) (h' : hH) : Prop :=
  (boBad S σ k two p ∧ v = some (.int (-2)) ∧ h' = xH B am S σ) ∨ (¬ boBad S σ k two p ∧ ((24 ≤ S 0 1 ∧ v = some (.int (-4)) ∧ h' = xH B am S σ) ∨ (S 0 1 < 24 ∧ v = some (.int (nI (S 0 1))) ∧ ∃ q, XOk (amU am 1 (S 0 1) q) (boU S (S 0 1) (two / 10).toNatClampNeg (two - two / 10 * 10).toNatClampNeg) ∧ (∀ x i, i < lim S x → am x i ≠ q) ∧ B q = none ∧ h' = xH B (amU am 1 (S 0 1) q) (boU S (S 0 1) (two / 10).toNatClampNeg (two - two / 10 * 10).toNatClampNeg) (boS σ (S 0 1) k (f_X1_shownParts k (σ.1 8 (two / 10).toNatClampNeg 3) p)))))
set_option maxRecDepth 100000 in
set_option maxHeartbeats 2000000 in
theorem bo_n1 {g : GC} {B : hH} {am : XAd} {S : XSh} {d : Nat} {σ : XSt} {k two p : Int32} {v5 : Value} (hd : 3 ≤ d) (hb : boBad S σ k two p) : AW g RX9 cX9_bottle 6 (some .int) "bottle" d 1 9 (boK B am S σ k two p) 36 [(5, v5), (4, .null), (0, .ref (am 9 0)), (1, .int k), (2, .int two), (3, .int p)] [] (xH B am S σ) := by
  refine r_iload_n dX9_bottle_36 rfl ?_
  refine r_iconst (v := (5 : Int32)) dX9_bottle_37 (by decide) ?_
  refine r_callS0 (d1 := d - 1) dX9_bottle_38 mf_X9_isUpTo ml_RX9_106 (ok_X9_isUpTo (d := d - 1) (by omega) _ _) rfl rfl (Nat.le_of_ble_eq_true rfl) (by omega) ?_
  refine r_if_eq (tgt := 61) dX9_bottle_41 (by decide) (fun c1 => ?_) (fun c1 => ?_)
  · refine r_bipush (v := (-2 : Int32)) dX9_bottle_61 (by decide) ?_
    refine r_iret dX9_bottle_63 rfl rfl ?_
    exact Or.inl ⟨hb, rfl, rfl⟩
  · refine r_aloadN dX9_bottle_44 rfl ?_
    refine r_ifnullN (tgt := 61) dX9_bottle_46 (by decide) ?_
    refine r_bipush (v := (-2 : Int32)) dX9_bottle_61 (by decide) ?_
    refine r_iret dX9_bottle_63 rfl rfl ?_
    exact Or.inl ⟨hb, rfl, rfl⟩
set_option maxRecDepth 100000 in
set_option maxHeartbeats 2000000 in
theorem bo_n2 {g : GC} {B : hH} {am : XAd} {S : XSh} {d : Nat} {σ : XSt} {k two p : Int32} {a4 : Nat} (hd : 3 ≤ d) (hb : boBad S σ k two p) : AW g RX9 cX9_bottle 6 (some .int) "bottle" d 1 9 (boK B am S σ k two p) 36 [(5, .null), (4, .ref a4), (0, .ref (am 9 0)), (1, .int k), (2, .int two), (3, .int p)] [] (xH B am S σ) := by
  refine r_iload_n dX9_bottle_36 rfl ?_
  refine r_iconst (v := (5 : Int32)) dX9_bottle_37 (by decide) ?_
  refine r_callS0 (d1 := d - 1) dX9_bottle_38 mf_X9_isUpTo ml_RX9_106 (ok_X9_isUpTo (d := d - 1) (by omega) _ _) rfl rfl (Nat.le_of_ble_eq_true rfl) (by omega) ?_
  refine r_if_eq (tgt := 61) dX9_bottle_41 (by decide) (fun c1 => ?_) (fun c1 => ?_)
  · refine r_bipush (v := (-2 : Int32)) dX9_bottle_61 (by decide) ?_
    refine r_iret dX9_bottle_63 rfl rfl ?_
    exact Or.inl ⟨hb, rfl, rfl⟩
  · refine r_aload dX9_bottle_44 rfl ?_
    refine r_ifnull dX9_bottle_46 ?_
    refine r_aloadN dX9_bottle_49 rfl ?_
    refine r_ifnullN (tgt := 61) dX9_bottle_51 (by decide) ?_
    refine r_bipush (v := (-2 : Int32)) dX9_bottle_61 (by decide) ?_
    refine r_iret dX9_bottle_63 rfl rfl ?_
    exact Or.inl ⟨hb, rfl, rfl⟩
set_option maxRecDepth 100000 in
set_option maxHeartbeats 2000000 in
theorem mk_X9_bottle {g : GC} {B : hH} {am : XAd} {S : XSh} {d : Nat} (hE : XOk am S) (hX : GX g) (hd : 5 ≤ d) (σ : XSt) (k two p : Int32) (h0 : XInv S σ) : AM g d 1 9 yX9_bottle cX9_bottle 6 (some .int) [.ref (am 9 0), .int k, .int two, .int p] (xH B am S σ) (boK B am S σ k two p) := by
  refine AM.of2 (own := RX9) (nm := "bottle") (L0 := [(0, .ref (am 9 0)), (1, .int k), (2, .int two), (3, .int p)]) (by decide) rfl rfl (Nat.le_of_ble_eq_true rfl) rfl ?_
  refine r_iload_n dX9_bottle_0 rfl ?_
  refine r_if_ge (tgt := 8) dX9_bottle_1 (by decide) (fun cz => ?_) (fun cz => ?_)
  · have cz : ¬ two < 0 := Int32.not_lt.mpr cz
    refine r_aload_n dX9_bottle_8 rfl ?_
    refine r_iload_n dX9_bottle_9 rfl ?_
    refine r_bipush (v := (10 : Int32)) dX9_bottle_10 (by decide) ?_
    refine r_idiv dX9_bottle_12 (by decide) ?_
    refine v_call (c := 9) (i := 0) hE (fun _ _ => rfl) (Nat.le_of_ble_eq_true rfl) dX9_bottle_13 mf_X9_wineAt ml_RX9_121 (ok_X9_wineAt (d := d - 1) hE hX (by omega) _ _ h0) rfl rfl rfl rfl (Nat.le_of_ble_eq_true rfl) (by omega) (fun v s1 hh => ?_)
    obtain ⟨rfl, e1⟩ := hh
    rw [e1]
    by_cases c4 : f_X9_wineAt S σ (two / 10) = 0
    · rw [if_pos c4]
      refine r_astoreN dX9_bottle_16 (by decide) ?_
      refine r_iload_n dX9_bottle_18 rfl ?_
      refine r_if_ge (tgt := 26) dX9_bottle_19 (by decide) (fun cy => ?_) (fun cy => ?_)
      · refine r_aload_n dX9_bottle_26 rfl ?_
        refine r_iload_n dX9_bottle_27 rfl ?_
        refine r_bipush (v := (10 : Int32)) dX9_bottle_28 (by decide) ?_
        refine r_irem dX9_bottle_30 (by decide) ?_
        refine v_call (c := 9) (i := 0) hE (fun _ _ => rfl) (Nat.le_of_ble_eq_true rfl) dX9_bottle_31 mf_X9_wineAt ml_RX9_121 (ok_X9_wineAt (d := d - 1) hE hX (by omega) _ _ h0) rfl rfl rfl rfl (Nat.le_of_ble_eq_true rfl) (by omega) (fun v s1 hh => ?_)
        obtain ⟨rfl, e1⟩ := hh
        rw [e1]
        by_cases c5 : f_X9_wineAt S σ (two - two / 10 * 10) = 0
        · rw [if_pos c5]
          refine r_astoreN dX9_bottle_34 (by decide) ?_
          exact bo_n1 (by omega) (Or.inr (Or.inr (Or.inl c4)))
        · rw [if_neg c5]
          refine r_astore dX9_bottle_34 (by decide) ?_
          exact bo_n1 (by omega) (Or.inr (Or.inr (Or.inl c4)))
      · exact absurd (Int32.not_lt.mp cz) cy
    · rw [if_neg c4]
      refine r_astore dX9_bottle_16 (by decide) ?_
      refine r_iload_n dX9_bottle_18 rfl ?_
      refine r_if_ge (tgt := 26) dX9_bottle_19 (by decide) (fun cy => ?_) (fun cy => ?_)
      · refine r_aload_n dX9_bottle_26 rfl ?_
        refine r_iload_n dX9_bottle_27 rfl ?_
        refine r_bipush (v := (10 : Int32)) dX9_bottle_28 (by decide) ?_
        refine r_irem dX9_bottle_30 (by decide) ?_
        refine v_call (c := 9) (i := 0) hE (fun _ _ => rfl) (Nat.le_of_ble_eq_true rfl) dX9_bottle_31 mf_X9_wineAt ml_RX9_121 (ok_X9_wineAt (d := d - 1) hE hX (by omega) _ _ h0) rfl rfl rfl rfl (Nat.le_of_ble_eq_true rfl) (by omega) (fun v s1 hh => ?_)
        obtain ⟨rfl, e1⟩ := hh
        rw [e1]
        by_cases c5 : f_X9_wineAt S σ (two - two / 10 * 10) = 0
        · rw [if_pos c5]
          refine r_astoreN dX9_bottle_34 (by decide) ?_
          exact bo_n2 (by omega) (Or.inr (Or.inr (Or.inr (Or.inl c5))))
        · rw [if_neg c5]
          refine r_astore dX9_bottle_34 (by decide) ?_
          refine r_iload_n dX9_bottle_36 rfl ?_
          refine r_iconst (v := (5 : Int32)) dX9_bottle_37 (by decide) ?_
          refine r_callS0 (d1 := d - 1) dX9_bottle_38 mf_X9_isUpTo ml_RX9_106 (ok_X9_isUpTo (d := d - 1) (by omega) _ _) rfl rfl (Nat.le_of_ble_eq_true rfl) (by omega) ?_
          refine r_if_eq (tgt := 61) dX9_bottle_41 (by decide) (fun c1 => ?_) (fun c1 => ?_)
          · refine r_bipush (v := (-2 : Int32)) dX9_bottle_61 (by decide) ?_
            refine r_iret dX9_bottle_63 rfl rfl ?_
            exact Or.inl ⟨Or.inl c1, rfl, rfl⟩
          · refine r_aload dX9_bottle_44 rfl ?_
            refine r_ifnull dX9_bottle_46 ?_
            refine r_aload dX9_bottle_49 rfl ?_
            refine r_ifnull dX9_bottle_51 ?_
            refine r_iload_n dX9_bottle_54 rfl ?_
            refine r_callS0 (d1 := d - 1) dX9_bottle_55 mf_X9_areParts ml_RX9_110 (ok_X9_areParts (d := d - 1) (by omega) _) rfl rfl (Nat.le_of_ble_eq_true rfl) (by omega) ?_
            refine r_if_ne (tgt := 64) dX9_bottle_58 (by decide) (fun c3 => ?_) (fun c3 => ?_)
            · have nb : ¬ boBad S σ k two p := fun z => z.elim c1 (fun z => z.elim cz (fun z => z.elim c4 (fun z => z.elim c5 c3)))
              refine r_aload_n dX9_bottle_64 rfl ?_
              refine v_getI (c := 9) (x := nI (S 0 1)) hE (fun _ _ => rfl) (fun _ => rfl) dX9_bottle_65 fl_RX9_142 (Nat.le_of_ble_eq_true rfl) h0.nb.1 ?_
              refine r_bipush (v := (24 : Int32)) dX9_bottle_68 (by decide) ?_
              refine r_icmp_lt (tgt := 76) dX9_bottle_70 (by decide) (fun c6 => ?_) (fun c6 => ?_)
              · have hlt : S 0 1 < 24 := by
                  rcases Nat.lt_or_ge (S 0 1) 24 with q | q
                  · exact q
                  · exact absurd c6 (Int32.not_lt.mpr (nI_le (a := 24) q (by have := h0.nb.2; omega)))
                refine r_aload_n dX9_bottle_76 rfl ?_
                refine v_get (c := 9) hE (fun _ _ => rfl) dX9_bottle_77 fl_RX9_17 (Nat.le_of_ble_eq_true rfl) rfl ?_
                refine r_aload_n dX9_bottle_80 rfl ?_
                refine v_getI (c := 9) (x := nI (S 0 1)) hE (fun _ _ => rfl) (fun _ => rfl) dX9_bottle_81 fl_RX9_142 (Nat.le_of_ble_eq_true rfl) h0.nb.1 ?_
                refine r_new dX9_bottle_84 nw_RX9_15 (by decide) (by decide) (fun q hq => ?_)
                have hout : ∀ x i, i < lim S x → am x i ≠ q := fun x i h z => by rw [← z, xH_at hE _ h] at hq; cases hq
                have hB : B q = none := by rw [← hq]; exact (xH_out hout).symm
                refine r_dup dX9_bottle_87 rfl ?_
                refine r_iload_n dX9_bottle_88 rfl ?_
                refine r_aload dX9_bottle_89 rfl ?_
                refine r_aload dX9_bottle_91 rfl ?_
                refine r_iload_n dX9_bottle_93 rfl ?_
                refine r_callI (d1 := d - 1) (c1 := 0) (n1 := 0) (As := [.int k, .ref (am 8 (two / 10).toNatClampNeg), .ref (am 8 (two - two / 10 * 10).toNatClampNeg), .int p]) dX9_bottle_94 mf_X1_init ml_RX9_145 (ok_X1_init hX (by omega) (pa := σ.1 8 (two / 10).toNatClampNeg 3) (hu_eq _ _ _) (by rw [hu_ne (hout 8 _ (lv_X9_wineAt h0 c4))]; exact xH_at hE σ (c := 8) (lv_X9_wineAt h0 c4)) rfl) rfl rfl (Nat.le_of_ble_eq_true rfl) (by omega) (Nat.zero_le _) (Nat.zero_le _) (fun v h' hh => ?_)
                obtain ⟨rfl, rfl⟩ := hh
                rw [hu_hu]
                generalize esh : f_X1_shownParts k (σ.1 8 (two / 10).toNatClampNeg 3) p = sh
                refine r_aast (t0 := 4) (ci := 1) dX9_bottle_97 (by rw [hu_ne (hout 11 0 (Nat.le_of_ble_eq_true rfl))]; exact xH_at hE σ (c := 11) (i := 0) (Nat.le_of_ble_eq_true rfl)) rfl (hu_eq _ _ _) rfl (vp_in_nI hlt (by decide)) ?_
                rw [nI_clamp (by omega)]
                have h911 : am 9 0 ≠ am 11 0 := fun z => absurd (hE _ _ _ _ (Nat.le_of_ble_eq_true rfl) (Nat.le_of_ble_eq_true rfl) z).1 (by decide)
                refine r_aload_n dX9_bottle_98 rfl ?_
                refine r_dup dX9_bottle_99 rfl ?_
                refine r_getf (v := .int (nI (S 0 1))) dX9_bottle_100 fl_RX9_142 (by rw [hu_ne h911, hu_ne (hout 9 0 (Nat.le_of_ble_eq_true rfl))]; exact xH_at hE σ (c := 9) (i := 0) (Nat.le_of_ble_eq_true rfl)) (congrArg (fun x => some (Value.int x)) h0.nb.1) ?_
                refine r_iconst (v := (1 : Int32)) dX9_bottle_103 (by decide) ?_
                refine r_iadd dX9_bottle_104 ?_
                rw [nI_1]
                refine r_putf (ci := 9) (k := 3) dX9_bottle_105 fp_RX9_142 (by rw [hu_ne h911, hu_ne (hout 9 0 (Nat.le_of_ble_eq_true rfl))]; exact xH_at hE σ (c := 9) (i := 0) (Nat.le_of_ble_eq_true rfl)) rfl rfl (Nat.le_of_ble_eq_true rfl) ?_
                refine r_aload_n dX9_bottle_108 rfl ?_
                refine r_getf (v := .int (nI (S 0 1 + 1))) dX9_bottle_109 fl_RX9_142 (hu_eq _ _ _) rfl ?_
                refine r_iconst (v := (1 : Int32)) dX9_bottle_112 (by decide) ?_
                refine r_isub dX9_bottle_113 ?_
                rw [nI_pred]
                refine r_iret dX9_bottle_114 rfl rfl ?_
                obtain ⟨ok, eh⟩ := bottle_heap (k := k) (sh := sh) (l := (two / 10).toNatClampNeg) (m := (two - two / 10 * 10).toNatClampNeg) hE rfl hq
                exact Or.inr ⟨nb, Or.inr ⟨hlt, rfl, q, ok, hout, hB, by rw [esh]; exact eh⟩⟩
              · refine r_bipush (v := (-4 : Int32)) dX9_bottle_73 (by decide) ?_
                refine r_iret dX9_bottle_75 rfl rfl ?_
                exact Or.inr ⟨nb, Or.inl ⟨(nI_leI (a := 24) (by decide) (by have := h0.nb.2; omega)).mp (Int32.not_lt.mp c6), rfl, rfl⟩⟩
            · refine r_bipush (v := (-2 : Int32)) dX9_bottle_61 (by decide) ?_
              refine r_iret dX9_bottle_63 rfl rfl ?_
              exact Or.inl ⟨Or.inr (Or.inr (Or.inr (Or.inr c3))), rfl, rfl⟩
      · exact absurd (Int32.not_lt.mp cz) cy
  · have cn : two < 0 := Int32.not_le.mp cz
    refine r_null dX9_bottle_4 ?_
    refine r_goto (tgt := 16) dX9_bottle_5 (by decide) ?_
    refine r_astoreN dX9_bottle_16 (by decide) ?_
    refine r_iload_n dX9_bottle_18 rfl ?_
    refine r_if_ge (tgt := 26) dX9_bottle_19 (by decide) (fun cy => ?_) (fun cy => ?_)
    · exact absurd cy cz
    · refine r_null dX9_bottle_22 ?_
      refine r_goto (tgt := 34) dX9_bottle_23 (by decide) ?_
      refine r_astoreN dX9_bottle_34 (by decide) ?_
      exact bo_n1 (by omega) (Or.inr (Or.inl cn))
