theorem xH_ext {B : hH} {am : XAd} {S : XSh} {σ : XSt} {h' : hH} (hE : XOk am S) (h1 : ∀ c i, i < lim S c → h' (am c i) = some (xE am S σ c i)) (h2 : ∀ a, (∀ c i, i < lim S c → am c i ≠ a) → h' a = B a) : h' = xH B am S σ := by
  funext a
  by_cases q : ∃ n : Nat × Nat, n.2 < lim S n.1 ∧ am n.1 n.2 = a
  · obtain ⟨⟨c, i⟩, q1, rfl⟩ := q
    rw [xH_at hE σ q1]; exact h1 c i q1
  · have q' : ∀ c i, i < lim S c → am c i ≠ a := fun c i z1 z2 => q ⟨(c, i), z1, z2⟩
    rw [xH_out q']; exact h2 a q'
def amU (am : XAd) (k n q : Nat) : XAd := fun c i => if c = k ∧ i = n then q else am c i
def SU (S : XSh) (j i v : Nat) : XSh := fun a b => if a = j ∧ b = i then v else S a b
theorem amU_s (am : XAd) (k n q : Nat) : amU am k n q k n = q := if_pos ⟨rfl, rfl⟩
theorem amU_n {am : XAd} {k n q c i : Nat} (h : ¬ (c = k ∧ i = n)) : amU am k n q c i = am c i := if_neg h
theorem SU_s (S : XSh) (j i v : Nat) : SU S j i v j i = v := if_pos ⟨rfl, rfl⟩
theorem SU_n {S : XSh} {j i v a b : Nat} (h : ¬ (a = j ∧ b = i)) : SU S j i v a b = S a b := if_neg h
set_option maxRecDepth 100000 in
set_option maxHeartbeats 2000000 in
theorem yE_cg {am am' : XAd} {S S' : XSh} (hA : ∀ c' i', c' ≠ 8 → c' ≠ 1 → c' ≠ 5 → c' ≠ 32 → am' c' i' = am c' i') {c i : Nat} (h1 : c = 1 → am' 8 (S' 1 i) = am 8 (S 1 i) ∧ am' 8 (S' 2 i) = am 8 (S 2 i)) (h5 : c = 5 → am' 32 i = am 32 i) (h10 : c = 10 → xR am' 8 (S' 0 0) = xR am 8 (S 0 0)) (h11 : c = 11 → xR am' 1 (S' 0 1) = xR am 1 (S 0 1)) (h12 : c = 12 → xR am' 5 (S' 0 2) = xR am 5 (S 0 2)) (h32 : c = 32 → S' 5 i = S 5 i) (f a : Nat → Int32) : yE am' S' c i f a = yE am S c i f a := by
  have e : ∀ c', (c' ≠ 8 ∧ c' ≠ 1 ∧ c' ≠ 5 ∧ c' ≠ 32) → ∀ i', am' c' i' = am c' i' := fun c' q i' => hA c' i' q.1 q.2.1 q.2.2.1 q.2.2.2
  have x7 : xR am' 7 6 = xR am 7 6 := by funext j; simp only [xR, e 7 (by decide)]
  have x6 : xR am' 6 4 = xR am 6 4 := by funext j; simp only [xR, e 6 (by decide)]
  unfold yE
  split
  · simp only [xF, e 20 (by decide), e 21 (by decide), e 22 (by decide)]
  · simp only [xF, (h1 rfl).1, (h1 rfl).2]
  · simp only [xF, e 31 (by decide), e 0 (by decide)]
  · simp only [xF, e 23 (by decide), e 24 (by decide), e 25 (by decide), e 26 (by decide), e 27 (by decide)]
  · simp only [xF, e 28 (by decide), e 29 (by decide)]
  · simp only [xF, h5 rfl]
  · simp only [xF, e 30 (by decide)]
  · rfl
  · rfl
  · simp only [xF, e 10 (by decide), e 11 (by decide), e 12 (by decide), e 0 (by decide), e 3 (by decide), e 4 (by decide), e 13 (by decide), e 14 (by decide), e 2 (by decide), e 15 (by decide), e 16 (by decide), e 17 (by decide), e 18 (by decide)]
  · rw [h10 rfl]
  · rw [h11 rfl]
  · rw [h12 rfl]
  · rw [x7]
  · rw [x6]
  · have : xN S' c i = xN S c i := by
      unfold xN
      split <;> first | rfl | exact h32 rfl
    rw [this]
theorem xR_up (am : XAd) (k n q : Nat) : va_up (xR am k n) n (some q) = xR (amU am k n q) k (n + 1) := by
  funext j
  unfold va_up xR
  by_cases h : j = n
  · subst h; rw [if_pos rfl, if_pos (Nat.lt_succ_self _), amU_s]
  · rw [if_neg h]
    by_cases h2 : j < n
    · rw [if_pos h2, if_pos (Nat.lt_succ_of_lt h2), amU_n (fun z => h z.2)]
    · rw [if_neg h2, if_neg (by omega)]
theorem xR_cg {am am' : XAd} {k n : Nat} (h : ∀ j, j < n → am' k j = am k j) : xR am' k n = xR am k n := by
  funext j
  unfold xR
  by_cases q : j < n
  · rw [if_pos q, if_pos q, h j q]
  · rw [if_neg q, if_neg q]
/-- a wine more -/
def wiS (σ : XSt) (n : Nat) (a b c e : Int32) : XSt := (fun x i k => if x = 8 ∧ i = n then (match k with | 0 => nI n | 1 => a | 2 => b | 3 => c | 4 => e | _ => 0) else if x = 9 ∧ i = 0 ∧ k = 1 then nI (n + 1) else σ.1 x i k, σ.2)
theorem lim_8 {S : XSh} {v c : Nat} : lim (SU S 0 0 v) c = if c = 8 then v else lim S c := by
  unfold lim
  split <;> first | rfl | (simp only [SU]; simp; done) | (split <;> first | rfl | (exfalso; simp_all; done))
theorem lim_1 {S : XSh} {v c x y : Nat} {l1 l2 : Nat} : lim (SU (SU (SU S 1 x l1) 2 y l2) 0 1 v) c = if c = 1 then v else lim S c := by
  unfold lim
  split <;> first | rfl | (simp only [SU]; simp; done) | (split <;> first | rfl | (exfalso; simp_all; done))
theorem lim_5 {S : XSh} {v c x : Nat} {l1 : Nat} : lim (SU (SU S 5 x l1) 0 2 v) c = if c = 5 ∨ c = 32 then v else lim S c := by
  unfold lim
  split <;> first | rfl | (simp only [SU]; simp; done) | (split <;> first | rfl | (exfalso; simp_all; done))

theorem wine_heap {B : hH} {am : XAd} {S : XSh} {σ : XSt} {q n : Nat} {a b c e : Int32} (hE : XOk am S) (hL : ∀ i, i < S 0 1 → S 1 i < S 0 0 ∧ S 2 i < S 0 0) (hn : S 0 0 = n) (hq : xH B am S σ q = none) : XOk (amU am 8 n q) (SU S 0 0 (n + 1)) ∧ hu (hu (hu (xH B am S σ) q (.inr (8, [.int (nI n), .int a, .int b, .int c, .int e, .int 0]))) (am 10 0) (.inl (3, 8, .inr (.inr (.inr (.inr (va_up (xR am 8 n) n (some q)))))))) (am 9 0) (.inr (9, (xF am S 9 0 (σ.1 9 0)).set 1 (.int (nI (n + 1))))) = xH B (amU am 8 n q) (SU S 0 0 (n + 1)) (wiS σ n a b c e) := by
  have hout : ∀ x i, i < lim S x → am x i ≠ q := fun x i h z => by rw [← z, xH_at hE _ h] at hq; cases hq
  have hlt : ∀ x i, i < lim (SU S 0 0 (n + 1)) x → (x = 8 ∧ i = n) ∨ (¬ (x = 8 ∧ i = n) ∧ i < lim S x) := by
    intro x i h
    rw [lim_8] at h
    by_cases z : x = 8
    · subst z
      rw [if_pos rfl] at h
      rcases Nat.lt_or_ge i n with y | y
      · exact Or.inr ⟨fun z => by omega, by show i < S 0 0; omega⟩
      · exact Or.inl ⟨rfl, by omega⟩
    · rw [if_neg z] at h
      exact Or.inr ⟨fun y => z y.1, h⟩
  have hok : XOk (amU am 8 n q) (SU S 0 0 (n + 1)) := by
    intro x i x' i' h h' he
    rcases hlt x i h with ⟨rfl, rfl⟩ | ⟨z, h1⟩ <;> rcases hlt x' i' h' with ⟨rfl, rfl⟩ | ⟨z', h1'⟩
    · exact ⟨rfl, rfl⟩
    · rw [amU_s, amU_n z'] at he; exact absurd he.symm (hout _ _ h1')
    · rw [amU_s, amU_n z] at he; exact absurd he (hout _ _ h1)
    · rw [amU_n z, amU_n z'] at he; exact hE _ _ _ _ h1 h1' he
  have h10 := hout 10 0 (Nat.le_of_ble_eq_true rfl)
  have h9 := hout 9 0 (Nat.le_of_ble_eq_true rfl)
  have h910 : am 9 0 ≠ am 10 0 := fun z => absurd (hE _ _ _ _ (Nat.le_of_ble_eq_true rfl) (Nat.le_of_ble_eq_true rfl) z).1 (by decide)
  refine ⟨hok, xH_ext hok (fun x i h => ?_) (fun a' h => ?_)⟩
  · rcases hlt x i h with ⟨rfl, rfl⟩ | ⟨z, h1⟩
    · rw [amU_s, hu_ne (Ne.symm h9), hu_ne (Ne.symm h10), hu_eq]
      refine congrArg some ?_
      show _ = Sum.inr (8, xF _ _ 8 i (fun k => if 8 = 8 ∧ i = i then _ else _))
      simp [xF, wiS]
    · rw [amU_n z]
      by_cases z9 : x = 9
      · subst z9
        have i0 : i = 0 := by have : i < 1 := h1; omega
        subst i0
        rw [hu_eq]
        refine congrArg some ?_
        show _ = yE _ _ 9 0 _ _
        rw [yE_cg (am := am) (S := S) (fun c' i' y _ _ _ => amU_n (fun u => y u.1)) (fun u => by cases u) (fun u => by cases u) (fun u => by cases u) (fun u => by cases u) (fun u => by cases u) (fun u => by cases u)]
        rfl
      · have n9 : am x i ≠ am 9 0 := fun y => z9 (hE _ _ _ _ h1 (Nat.le_of_ble_eq_true rfl) y).1
        rw [hu_ne n9]
        by_cases z10 : x = 10
        · subst z10
          have i0 : i = 0 := by have : i < 1 := h1; omega
          subst i0
          rw [hu_eq, xR_up]
          rfl
        · have n10 : am x i ≠ am 10 0 := fun y => z10 (hE _ _ _ _ h1 (Nat.le_of_ble_eq_true rfl) y).1
          rw [hu_ne n10, hu_ne (hout _ _ h1), xH_at hE _ h1]
          refine congrArg some ?_
          have e1 : (wiS σ n a b c e).1 x i = σ.1 x i := by
            funext k
            show (if x = 8 ∧ i = n then _ else if x = 9 ∧ i = 0 ∧ k = 1 then _ else _) = _
            rw [if_neg z, if_neg (fun y => z9 y.1)]
          show yE am S x i (σ.1 x i) (σ.2 x i) = yE (amU am 8 n q) (SU S 0 0 (n + 1)) x i ((wiS σ n a b c e).1 x i) (σ.2 x i)
          rw [e1]
          refine (yE_cg (am := am) (am' := amU am 8 n q) (S := S) (S' := SU S 0 0 (n + 1)) (fun c' i' y _ _ _ => amU_n (fun u => y u.1)) (fun u => ?_) (fun u => rfl) (fun u => absurd u z10) (fun u => ?_) (fun u => ?_) (fun u => rfl) _ _).symm
          · subst u
            have hb := hL i h1
            rw [hn] at hb
            exact ⟨amU_n (fun y => by have := y.2; have e : (SU S 0 0 (n + 1)) 1 i = S 1 i := rfl; omega), amU_n (fun y => by have := y.2; have e : (SU S 0 0 (n + 1)) 2 i = S 2 i := rfl; omega)⟩
          · exact xR_cg (fun j _ => amU_n (fun y => by cases y.1))
          · exact xR_cg (fun j _ => amU_n (fun y => by cases y.1))
  · have hq' : a' ≠ q := fun z => h 8 n (by rw [lim_8, if_pos rfl]; omega) ((amU_s _ _ _ _).trans z.symm)
    have hall : ∀ x i, i < lim S x → am x i ≠ a' := by
      intro x i h1 z
      by_cases y : x = 8 ∧ i = n
      · obtain ⟨rfl, rfl⟩ := y
        have : i < S 0 0 := h1
        omega
      · refine h x i ?_ ((amU_n y).trans z)
        rw [lim_8]
        split
        · next e => subst e; have : i < S 0 0 := h1; omega
        · exact h1
    rw [hu_ne (Ne.symm (hall 9 0 (Nat.le_of_ble_eq_true rfl))), hu_ne (Ne.symm (hall 10 0 (Nat.le_of_ble_eq_true rfl))), hu_ne hq', xH_out hall]
def wiBad (a b c e : Int32) : Prop := f_X9_isUpTo a 99 = 0 ∨ f_X9_isUpTo b 999 = 0 ∨ f_X9_areParts c = 0 ∨ f_X9_isUpTo e 999999 = 0
def wiK (B : hH) (am : XAd) (S : XSh) (σ : XSt) (a b c e : Int32) (v : Option Value) (h' : hH) : Prop :=
  (wiBad a b c e ∧ v = some (.int (-2)) ∧ h' = xH B am S σ) ∨ (¬ wiBad a b c e ∧ ((8 ≤ S 0 0 ∧ v = some (.int (-4)) ∧ h' = xH B am S σ) ∨ (S 0 0 < 8 ∧ v = some (.int (nI (S 0 0))) ∧ ∃ q, XOk (amU am 8 (S 0 0) q) (SU S 0 0 (S 0 0 + 1)) ∧ (∀ x i, i < lim S x → am x i ≠ q) ∧ B q = none ∧ h' = xH B (amU am 8 (S 0 0) q) (SU S 0 0 (S 0 0 + 1)) (wiS σ (S 0 0) a b c e))))
set_option maxRecDepth 100000 in
set_option maxHeartbeats 2000000 in
theorem mk_X9_wine {g : GC} {B : hH} {am : XAd} {S : XSh} {d : Nat} (hE : XOk am S) (hX : GX g) (hd : 3 ≤ d) (σ : XSt) (a b c e : Int32) (h0 : XInv S σ) : AM g d 1 6 yX9_wine cX9_wine 5 (some .int) [.ref (am 9 0), .int a, .int b, .int c, .int e] (xH B am S σ) (wiK B am S σ a b c e) := by
  refine AM.of2 (own := RX9) (nm := "wine") (L0 := [(0, .ref (am 9 0)), (1, .int a), (2, .int b), (3, .int c), (4, .int e)]) (by decide) rfl rfl (Nat.le_of_ble_eq_true rfl) rfl ?_
  refine r_iload_n dX9_wine_0 rfl ?_
  refine r_bipush (v := (99 : Int32)) dX9_wine_1 (by decide) ?_
  refine r_callS0 (d1 := d - 1) dX9_wine_3 mf_X9_isUpTo ml_RX9_106 (ok_X9_isUpTo (d := d - 1) (by omega) _ _) rfl rfl (Nat.le_of_ble_eq_true rfl) (by omega) ?_
  refine r_if_eq (tgt := 36) dX9_wine_6 (by decide) (fun c1 => ?_) (fun c1 => ?_)
  · refine r_bipush (v := (-2 : Int32)) dX9_wine_36 (by decide) ?_
    refine r_iret dX9_wine_38 rfl rfl ?_
    exact Or.inl ⟨Or.inl c1, rfl, rfl⟩
  · refine r_iload_n dX9_wine_9 rfl ?_
    refine r_sipush (v := (999 : Int32)) dX9_wine_10 (by decide) ?_
    refine r_callS0 (d1 := d - 1) dX9_wine_13 mf_X9_isUpTo ml_RX9_106 (ok_X9_isUpTo (d := d - 1) (by omega) _ _) rfl rfl (Nat.le_of_ble_eq_true rfl) (by omega) ?_
    refine r_if_eq (tgt := 36) dX9_wine_16 (by decide) (fun c2 => ?_) (fun c2 => ?_)
    · refine r_bipush (v := (-2 : Int32)) dX9_wine_36 (by decide) ?_
      refine r_iret dX9_wine_38 rfl rfl ?_
      exact Or.inl ⟨Or.inr (Or.inl c2), rfl, rfl⟩
    · refine r_iload_n dX9_wine_19 rfl ?_
      refine r_callS0 (d1 := d - 1) dX9_wine_20 mf_X9_areParts ml_RX9_110 (ok_X9_areParts (d := d - 1) (by omega) _) rfl rfl (Nat.le_of_ble_eq_true rfl) (by omega) ?_
      refine r_if_eq (tgt := 36) dX9_wine_23 (by decide) (fun c3 => ?_) (fun c3 => ?_)
      · refine r_bipush (v := (-2 : Int32)) dX9_wine_36 (by decide) ?_
        refine r_iret dX9_wine_38 rfl rfl ?_
        exact Or.inl ⟨Or.inr (Or.inr (Or.inl c3)), rfl, rfl⟩
      · refine r_iload dX9_wine_26 rfl ?_
        refine r_ldc dX9_wine_28 kc_RX9_114 ?_
        refine r_callS0 (d1 := d - 1) dX9_wine_30 mf_X9_isUpTo ml_RX9_106 (ok_X9_isUpTo (d := d - 1) (by omega) _ _) rfl rfl (Nat.le_of_ble_eq_true rfl) (by omega) ?_
        refine r_if_ne (tgt := 39) dX9_wine_33 (by decide) (fun c4 => ?_) (fun c4 => ?_)
        · have nb : ¬ wiBad a b c e := fun z => z.elim c1 (fun z => z.elim c2 (fun z => z.elim c3 c4))
          refine r_aload_n dX9_wine_39 rfl ?_
          refine v_getI (c := 9) (x := nI (S 0 0)) hE (fun _ _ => rfl) (fun _ => rfl) dX9_wine_40 fl_RX9_115 (Nat.le_of_ble_eq_true rfl) h0.nw.1 ?_
          refine r_bipush (v := (8 : Int32)) dX9_wine_43 (by decide) ?_
          refine r_icmp_lt (tgt := 51) dX9_wine_45 (by decide) (fun c5 => ?_) (fun c5 => ?_)
          · have hlt : S 0 0 < 8 := by
              rcases Nat.lt_or_ge (S 0 0) 8 with q | q
              · exact q
              · exact absurd c5 (Int32.not_lt.mpr (nI_le (a := 8) q (by have := h0.nw.2; omega)))
            refine r_aload_n dX9_wine_51 rfl ?_
            refine v_get (c := 9) hE (fun _ _ => rfl) dX9_wine_52 fl_RX9_11 (Nat.le_of_ble_eq_true rfl) rfl ?_
            refine r_aload_n dX9_wine_55 rfl ?_
            refine v_getI (c := 9) (x := nI (S 0 0)) hE (fun _ _ => rfl) (fun _ => rfl) dX9_wine_56 fl_RX9_115 (Nat.le_of_ble_eq_true rfl) h0.nw.1 ?_
            refine r_new dX9_wine_59 nw_RX9_9 (by decide) (by decide) (fun q hq => ?_)
            have hout : ∀ x i, i < lim S x → am x i ≠ q := fun x i h z => by rw [← z, xH_at hE _ h] at hq; cases hq
            have hB : B q = none := by rw [← hq]; exact (xH_out hout).symm
            refine r_dup dX9_wine_62 rfl ?_
            refine r_aload_n dX9_wine_63 rfl ?_
            refine r_getf (v := .int (nI (S 0 0))) dX9_wine_64 fl_RX9_115 (by rw [hu_ne (hout 9 0 (Nat.le_of_ble_eq_true rfl))]; exact xH_at hE σ (c := 9) (i := 0) (Nat.le_of_ble_eq_true rfl)) (congrArg (fun x => some (Value.int x)) h0.nw.1) ?_
            refine r_iload_n dX9_wine_67 rfl ?_
            refine r_iload_n dX9_wine_68 rfl ?_
            refine r_iload_n dX9_wine_69 rfl ?_
            refine r_iload dX9_wine_70 rfl ?_
            refine r_callI (d1 := d - 1) (c1 := 0) (n1 := 0) (As := [.int (nI (S 0 0)), .int a, .int b, .int c, .int e]) dX9_wine_72 mf_X8_init ml_RX9_118 (ok_X8_init (by omega) (hu_eq _ _ _)) rfl rfl (Nat.le_of_ble_eq_true rfl) (by omega) (Nat.zero_le _) (Nat.zero_le _) (fun v h' hh => ?_)
            obtain ⟨rfl, rfl⟩ := hh
            rw [hu_hu]
            refine r_aast (t0 := 3) (ci := 8) dX9_wine_75 (by rw [hu_ne (hout 10 0 (Nat.le_of_ble_eq_true rfl))]; exact xH_at hE σ (c := 10) (i := 0) (Nat.le_of_ble_eq_true rfl)) rfl (hu_eq _ _ _) rfl (vp_in_nI hlt (by decide)) ?_
            rw [nI_clamp (by omega)]
            have h910 : am 9 0 ≠ am 10 0 := fun z => absurd (hE _ _ _ _ (Nat.le_of_ble_eq_true rfl) (Nat.le_of_ble_eq_true rfl) z).1 (by decide)
            refine r_aload_n dX9_wine_76 rfl ?_
            refine r_dup dX9_wine_77 rfl ?_
            refine r_getf (v := .int (nI (S 0 0))) dX9_wine_78 fl_RX9_115 (by rw [hu_ne h910, hu_ne (hout 9 0 (Nat.le_of_ble_eq_true rfl))]; exact xH_at hE σ (c := 9) (i := 0) (Nat.le_of_ble_eq_true rfl)) (congrArg (fun x => some (Value.int x)) h0.nw.1) ?_
            refine r_iconst (v := (1 : Int32)) dX9_wine_81 (by decide) ?_
            refine r_iadd dX9_wine_82 ?_
            rw [nI_1]
            refine r_putf (ci := 9) (k := 1) dX9_wine_83 fp_RX9_115 (by rw [hu_ne h910, hu_ne (hout 9 0 (Nat.le_of_ble_eq_true rfl))]; exact xH_at hE σ (c := 9) (i := 0) (Nat.le_of_ble_eq_true rfl)) rfl rfl (Nat.le_of_ble_eq_true rfl) ?_
            refine r_aload_n dX9_wine_86 rfl ?_
            refine r_getf (v := .int (nI (S 0 0 + 1))) dX9_wine_87 fl_RX9_115 (hu_eq _ _ _) rfl ?_
            refine r_iconst (v := (1 : Int32)) dX9_wine_90 (by decide) ?_
            refine r_isub dX9_wine_91 ?_
            rw [nI_pred]
            refine r_iret dX9_wine_92 rfl rfl ?_
            obtain ⟨ok, eh⟩ := wine_heap (a := a) (b := b) (c := c) (e := e) hE h0.2.1 rfl hq
            exact Or.inr ⟨nb, Or.inr ⟨hlt, rfl, q, ok, hout, hB, eh⟩⟩
          · refine r_bipush (v := (-4 : Int32)) dX9_wine_48 (by decide) ?_
            refine r_iret dX9_wine_50 rfl rfl ?_
            exact Or.inr ⟨nb, Or.inl ⟨(nI_leI (a := 8) (by decide) (by have := h0.nw.2; omega)).mp (Int32.not_lt.mp c5), rfl, rfl⟩⟩
        · refine r_bipush (v := (-2 : Int32)) dX9_wine_36 (by decide) ?_
          refine r_iret dX9_wine_38 rfl rfl ?_
          exact Or.inl ⟨Or.inr (Or.inr (Or.inr c4)), rfl, rfl⟩
