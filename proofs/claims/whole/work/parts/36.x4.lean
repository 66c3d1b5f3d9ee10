theorem XInv.wUp {S : XSh} {σ : XSt} (h : XInv S σ) {l : Int32} (hl : Ct l 8) (c : ¬ σ.1 9 0 1 ≤ l) : l.toNatClampNeg < S 0 0 ∧ vp_in l 8 ∧ Ct (l + 1) 8 ∧ 9 - (l + 1).toNatClampNeg < 9 - l.toNatClampNeg := by
  have hb := h.nw
  obtain ⟨k, hk, rfl⟩ := id hl
  rw [hb.1] at c
  have hlt : k < S 0 0 := by
    rcases Nat.lt_or_ge k (S 0 0) with q | q
    · exact q
    · exact absurd (nI_le q (by omega)) c
  have u := Ct.up (by decide) ⟨S 0 0, hb.2, rfl⟩ hl c
  exact ⟨by rw [nI_clamp (by omega)]; exact hlt, u⟩
theorem XInv.kUp {S : XSh} {σ : XSt} (h : XInv S σ) {l : Int32} (hl : Ct l 8) (c : ¬ σ.1 2 0 2 ≤ l) : l.toNatClampNeg < S 0 0 ∧ vp_in l 8 ∧ Ct (l + 1) 8 ∧ 9 - (l + 1).toNatClampNeg < 9 - l.toNatClampNeg := by
  obtain ⟨n, hn, e⟩ := h.kw
  have h8 := h.nw.2
  obtain ⟨k, hk, rfl⟩ := id hl
  rw [e] at c
  have hlt : k < n := by
    rcases Nat.lt_or_ge k n with q | q
    · exact q
    · exact absurd (nI_le q (by omega)) c
  have u := Ct.up (by decide) ⟨n, by omega, rfl⟩ hl c
  exact ⟨by rw [nI_clamp (by omega)]; omega, u⟩
theorem put_ct {S : XSh} {σ : XSt} (h : Ct (σ.1 4 0 2) 160) (b : Int32) : Ct ((f_X4_put S σ b).1 4 0 2) 160 := by
  unfold f_X4_put
  by_cases c : (160 : Int32) ≤ σ.1 4 0 2
  · rw [if_pos c]; exact h
  · rw [if_neg c]
    exact (Ct.up (by decide) ct160 h c).2.1
theorem XInv.below_sz {S : XSh} {σ : XSt} (h : XInv S σ) {p : Int32} (c : ¬ f_X9_isBelow p (σ.1 3 0 5) = 0) : Ct p 40 ∧ ¬ σ.1 3 0 5 ≤ p ∧ vp_in p 40 := by
  obtain ⟨n, hn, e⟩ := h.ns
  rw [e] at c ⊢
  obtain ⟨k, hk, rfl⟩ := below_n rfl (by omega) c
  exact ⟨⟨k, by omega, rfl⟩, fun q => by have := (nI_leI (by omega) (by omega)).mp q; omega, vp_in_nI (by omega) (by decide)⟩
theorem has_k {S : XSh} {σ : XSt} {o : Nat} {i n : Int32} (hz : Ct (σ.1 6 o 2) 40) (c : ¬ f_X6_has S σ o i n = 0) : ¬ i < 0 ∧ ¬ n < 0 ∧ CI i n := by
  unfold f_X6_has at c
  by_cases c1 : i < 0
  · rw [if_pos c1] at c; exact absurd rfl c
  · rw [if_neg c1] at c
    by_cases c2 : n < 0
    · rw [if_pos c2] at c; exact absurd rfl c
    · rw [if_neg c2] at c
      by_cases c3 : σ.1 6 o 2 - n < i
      · rw [if_pos c3] at c; exact absurd rfl c
      · exact ⟨c1, c2, CI.of hz c2 c1 c3⟩
theorem CI.le {i n : Int32} (h : CI i n) : i.toNatClampNeg + n.toNatClampNeg ≤ 40 := by
  obtain ⟨a, m, rfl, rfl, h⟩ := h
  rw [nI_clamp (by omega), nI_clamp (by omega)]
  exact h
theorem CI.four {i : Int32} (h : CI i 4) : vp_in i 40 ∧ vp_in (i + 1) 40 ∧ vp_in (i + 2) 40 ∧ vp_in (i + 3) 40 := by
  obtain ⟨a, m, rfl, e, h⟩ := h
  have hm : m = 4 := ((nI_eq (a := 4) (by decide) (by omega)).mp e).symm
  subst hm
  rw [show nI a + 1 = nI (a + 1) from nI_add a 1, show nI a + 2 = nI (a + 2) from nI_add a 2, show nI a + 3 = nI (a + 3) from nI_add a 3]
  exact ⟨vp_in_nI (by omega) (by decide), vp_in_nI (by omega) (by decide), vp_in_nI (by omega) (by decide), vp_in_nI (by omega) (by decide)⟩
theorem within_lv {S : XSh} {σ : XSt} {b : Nat} (h : XInv S σ) (hb : b < lim S 1) : f_X1_within S σ b < lim S 8 := by
  unfold f_X1_within
  split
  · exact h.ins hb
  · exact h.lab hb
theorem lb_in (x : Int32) : vp_in (f_X9_lowestBit x) 10 := by
  have key : ∀ (n : Nat) (l0 l1 : Int32), Ct l1 9 → 10 - l1.toNatClampNeg < n → Ct (f_X9_lowestBit_L2 n l0 l1) 9 := by
    intro n
    induction n with
    | zero => intro l0 l1 _ h; exact absurd h (Nat.not_lt_zero _)
    | succ n ih =>
      intro l0 l1 hl hn
      unfold f_X9_lowestBit_L2
      (repeat' split) <;> first | exact hl | (have u := Ct.up (by decide) ct9 hl (by assumption); exact ih _ _ u.2.1 (by omega))
  obtain ⟨k, hk, e⟩ : Ct (f_X9_lowestBit x) 9 := by
    unfold f_X9_lowestBit
    exact key _ _ _ (Ct.zero _) (by decide)
  rw [e]
  exact vp_in_nI (by omega) (by decide)
theorem ct_rg8 {x : Int32} (h0 : ¬ x < 1) (h1 : x ≤ 8) : Ct x 8 := by
  obtain ⟨j, hj, e⟩ := nI_of_rg (N := 8) (by decide) (Int32.le_trans (by decide) (Int32.not_lt.mp h0)) h1
  exact ⟨j, hj, e⟩
def LB (l : Int32) : Prop := ∃ m : Nat, l = nI m ∧ m ≤ 10
set_option maxRecDepth 100000 in
theorem shl_tab : ∀ m, m ≤ 10 → ∃ k, k < 1025 ∧ (1 : Int32) <<< (nI m &&& 31) = nI k := by decide +kernel
theorem LB.ct {l : Int32} (h : LB l) : Ct ((1 : Int32) <<< (l &&& 31)) 1024 := by
  obtain ⟨m, rfl, hm⟩ := h
  obtain ⟨k, hk, e⟩ := shl_tab m hm
  exact ⟨k, by omega, e⟩
theorem wd_lb {S : XSh} {σ : XSt} (h : XInv S σ) : LB (f_X9_weighDoubts S σ).1 := by
  have key : ∀ (n : Nat) (σ : XSt) (l1 l2 : Int32), LB l1 → LB (f_X9_weighDoubts_L12 n S σ l1 l2).1 := by
    intro n
    induction n with
    | zero => intro σ l1 l2 h; exact ⟨0, rfl, by omega⟩
    | succ n ih =>
      intro σ l1 l2 hl
      unfold f_X9_weighDoubts_L12
      split
      · exact hl
      · exact ih _ _ _ hl
  obtain ⟨m, e, h1, -⟩ := h.mn
  have hm : LB (if (10 : Int32) < σ.1 9 0 3 then 10 else σ.1 9 0 3) := ⟨m, e, h1⟩
  unfold f_X9_weighDoubts
  exact key _ _ _ _ hm
theorem XInv.wr {S : XSh} {σ : XSt} (h : XInv S σ) {b hd p y : Int32} (hb : ∃ k : Nat, k < S 0 1 ∧ b = nI k) : XInv S (f_X3_write S σ b hd p y).2 := by
  unfold f_X3_write
  by_cases c : σ.1 3 0 5 < 40
  · rw [if_pos c]
    obtain ⟨n, hn, e⟩ := id h.ns
    have hn40 : n < 40 := by
      rcases Nat.lt_or_ge n 40 with q | q
      · exact q
      · rw [e] at c; exact absurd c (Int32.not_lt.mpr (nI_le (a := 40) q (by omega)))
    refine ⟨h.1, h.2.1, ?_, ?_, h.2.2.2.2.1, h.2.2.2.2.2.1, h.2.2.2.2.2.2.1, h.2.2.2.2.2.2.2.1, ?_⟩
    · show Ct (σ.1 3 0 5 + 1) 40
      rw [e, nI_1]
      exact ⟨n + 1, by omega, rfl⟩
    · intro i hi
      have hi' : i < (σ.1 3 0 5 + 1).toNatClampNeg := hi
      rw [e, nI_1, nI_clamp (by omega)] at hi'
      show ∃ b', b' < S 0 1 ∧ up3 σ.2 23 0 (σ.1 3 0 5).toNatClampNeg b 23 0 i = nI b'
      rw [up3_self]
      unfold upd
      by_cases hin : i = (σ.1 3 0 5).toNatClampNeg
      · rw [if_pos hin]; exact hb
      · rw [if_neg hin]
        rw [e, nI_clamp (by omega)] at hin
        exact h.sb (by rw [e, nI_clamp (by omega)]; omega)
    · rcases h.ks with q | ⟨k, hk, q⟩
      · exact Or.inl q
      · refine Or.inr ⟨k, ?_, q⟩
        show k ≤ (σ.1 3 0 5 + 1).toNatClampNeg
        rw [e, nI_clamp (by omega)] at hk
        rw [e, nI_1, nI_clamp (by omega)]
        omega
  · rw [if_neg c]; exact h

def f_X9_drunk (S : XSh) (σ : XSt) (p1 : Int32) (p2 : Int32) : Int32 × XSt := (if (f_X9_wineAt S σ p1) = 0 then ((-2 : Int32), σ) else (if (f_X9_isUpTo p2 (999 : Int32)) = 0 then ((-2 : Int32), σ) else ((σ.1 8 (Int32.toNatClampNeg p1) 5), (xp σ 8 (Int32.toNatClampNeg p1) 5 p2))))
set_option maxRecDepth 100000 in
set_option maxHeartbeats 1000000 in
theorem ok_X9_drunk {g : GC} {B : hH} {am : XAd} {S : XSh} {d : Nat} (hE : XOk am S) (hX : GX g) (hd : 2 ≤ d) (σ : XSt) (p1 : Int32) (p2 : Int32) (h0 : XInv S σ) : XC g B am S d yX9_drunk cX9_drunk 5 (some FieldType.int) [.ref (am 9 0), .int p1, .int p2] (fun v σ' => v = some (.int (f_X9_drunk S σ p1 p2).1) ∧ σ' = (f_X9_drunk S σ p1 p2).2) σ := by
  refine AM.of2 (own := RX9) (nm := "drunk") (L0 := [(0, .ref (am 9 0)), (1, .int p1), (2, .int p2)]) (by decide) rfl rfl (Nat.le_of_ble_eq_true rfl) rfl ?_
  refine r_aload_n dX9_drunk_0 rfl ?_
  refine r_iload_n dX9_drunk_1 rfl ?_
  by_cases c1 : (f_X9_wineAt S σ p1) = 0
  · refine x_callW (c := 9) (i := 0) hE (fun _ _ => rfl) (Nat.le_of_ble_eq_true rfl) dX9_drunk_2 mf_X9_wineAt ml_RX9_121 (ok_X9_wineAt (d := d - 1) hE hX (by omega) _ _ (by with_reducible assumption)) rfl rfl rfl rfl (Nat.le_of_ble_eq_true rfl) (by omega) ?_
    rw [if_pos c1]
    refine r_astore_nN dX9_drunk_5 (by decide) ?_
    refine r_aload_nN dX9_drunk_6 rfl ?_
    refine r_ifnullN (tgt := 20) dX9_drunk_7 (by decide) ?_
    refine r_bipush (v := (-2 : Int32)) dX9_drunk_20 (by decide) ?_
    refine r_iret dX9_drunk_22 rfl rfl ?_
    exact ⟨_, rfl, by rw [f_X9_drunk, if_pos c1], by rw [f_X9_drunk, if_pos c1]⟩
  · refine x_callW (c := 9) (i := 0) hE (fun _ _ => rfl) (Nat.le_of_ble_eq_true rfl) dX9_drunk_2 mf_X9_wineAt ml_RX9_121 (ok_X9_wineAt (d := d - 1) hE hX (by omega) _ _ (by with_reducible assumption)) rfl rfl rfl rfl (Nat.le_of_ble_eq_true rfl) (by omega) ?_
    rw [if_neg c1]
    have lc1 := lv_X9_wineAt h0 c1
    refine r_astore_n dX9_drunk_5 (by decide) ?_
    refine r_aload_n dX9_drunk_6 rfl ?_
    refine r_ifnull dX9_drunk_7 ?_
    refine r_iload_n dX9_drunk_10 rfl ?_
    refine r_sipush (v := (999 : Int32)) dX9_drunk_11 (by decide) ?_
    refine r_callS0 dX9_drunk_14 mf_X9_isUpTo ml_RX9_106 (ok_X9_isUpTo (d := d - 1) (by omega) _ _) rfl rfl (Nat.le_of_ble_eq_true rfl) (by omega) ?_
    refine r_if_ne (tgt := 23) dX9_drunk_17 (by decide) (fun c2 => ?_) (fun c2 => ?_)
    · refine r_aload_n dX9_drunk_23 rfl ?_
      refine x_getI (c := 8) (x := (σ.1 8 (Int32.toNatClampNeg p1) 5)) hE (fun _ _ => rfl) (fun _ => rfl) dX9_drunk_24 fl_RX9_125 (by with_reducible assumption) rfl ?_
      refine r_istore dX9_drunk_27 (by decide) ?_
      refine r_aload_n dX9_drunk_29 rfl ?_
      refine r_iload_n dX9_drunk_30 rfl ?_
      refine x_put (c := 8) (i := (Int32.toNatClampNeg p1)) (k := 5) hE (fun _ _ => rfl) dX9_drunk_31 fp_RX9_125 (by with_reducible assumption) rfl rfl (fun _ => Nat.le_of_ble_eq_true rfl) (fun _ _ => rfl) ?_
      refine r_iload dX9_drunk_34 rfl ?_
      refine r_iret dX9_drunk_36 rfl rfl ?_
      exact ⟨_, rfl, by rw [f_X9_drunk, if_neg c1, if_neg c2], by rw [f_X9_drunk, if_neg c1, if_neg c2]⟩
    · refine r_bipush (v := (-2 : Int32)) dX9_drunk_20 (by decide) ?_
      refine r_iret dX9_drunk_22 rfl rfl ?_
      exact ⟨_, rfl, by rw [f_X9_drunk, if_neg c1, if_pos c2], by rw [f_X9_drunk, if_neg c1, if_pos c2]⟩

def f_X9_book (S : XSh) (σ : XSt) (p1 : Int32) (p2 : Int32) (p3 : Int32) (p4 : Int32) : Int32 × XSt := (if (f_X0_place p1 p2) = (-1 : Int32) then ((-2 : Int32), σ) else (if (f_X9_isUpTo p4 (99 : Int32)) = 0 then ((-2 : Int32), σ) else (if (f_X9_isUpTo p3 p4) = 0 then ((-2 : Int32), σ) else ((1 : Int32), (f_X0_write S σ 0 p1 p2 p3 p4)))))
set_option maxRecDepth 100000 in
set_option maxHeartbeats 1000000 in
theorem ok_X9_book {g : GC} {B : hH} {am : XAd} {S : XSh} {d : Nat} (hE : XOk am S) (hX : GX g) (hd : 2 ≤ d) (σ : XSt) (p1 : Int32) (p2 : Int32) (p3 : Int32) (p4 : Int32)  : XC g B am S d yX9_book cX9_book 5 (some FieldType.int) [.ref (am 9 0), .int p1, .int p2, .int p3, .int p4] (fun v σ' => v = some (.int (f_X9_book S σ p1 p2 p3 p4).1) ∧ σ' = (f_X9_book S σ p1 p2 p3 p4).2) σ := by
  refine AM.of2 (own := RX9) (nm := "book") (L0 := [(0, .ref (am 9 0)), (1, .int p1), (2, .int p2), (3, .int p3), (4, .int p4)]) (by decide) rfl rfl (Nat.le_of_ble_eq_true rfl) rfl ?_
  refine r_iload_n dX9_book_0 rfl ?_
  refine r_iload_n dX9_book_1 rfl ?_
  refine r_callS0 dX9_book_2 mf_X0_place ml_RX9_128 (ok_X0_place (d := d - 1) (by omega) _ _) rfl rfl (Nat.le_of_ble_eq_true rfl) (by omega) ?_
  refine r_iconst (v := (-1 : Int32)) dX9_book_5 (by decide) ?_
  refine r_icmp_eq (tgt := 28) dX9_book_6 (by decide) (fun c1 => ?_) (fun c1 => ?_)
  · refine r_bipush (v := (-2 : Int32)) dX9_book_28 (by decide) ?_
    refine r_iret dX9_book_30 rfl rfl ?_
    exact ⟨_, rfl, by rw [f_X9_book, if_pos c1], by rw [f_X9_book, if_pos c1]⟩
  · refine r_iload dX9_book_9 rfl ?_
    refine r_bipush (v := (99 : Int32)) dX9_book_11 (by decide) ?_
    refine r_callS0 dX9_book_13 mf_X9_isUpTo ml_RX9_106 (ok_X9_isUpTo (d := d - 1) (by omega) _ _) rfl rfl (Nat.le_of_ble_eq_true rfl) (by omega) ?_
    refine r_if_eq (tgt := 28) dX9_book_16 (by decide) (fun c2 => ?_) (fun c2 => ?_)
    · refine r_bipush (v := (-2 : Int32)) dX9_book_28 (by decide) ?_
      refine r_iret dX9_book_30 rfl rfl ?_
      exact ⟨_, rfl, by rw [f_X9_book, if_neg c1, if_pos c2], by rw [f_X9_book, if_neg c1, if_pos c2]⟩
    · refine r_iload_n dX9_book_19 rfl ?_
      refine r_iload dX9_book_20 rfl ?_
      refine r_callS0 dX9_book_22 mf_X9_isUpTo ml_RX9_106 (ok_X9_isUpTo (d := d - 1) (by omega) _ _) rfl rfl (Nat.le_of_ble_eq_true rfl) (by omega) ?_
      refine r_if_ne (tgt := 31) dX9_book_25 (by decide) (fun c3 => ?_) (fun c3 => ?_)
      · refine r_aload_n dX9_book_31 rfl ?_
        refine x_get (c := 9) hE (fun _ _ => rfl) dX9_book_32 fl_RX9_30 (Nat.le_of_ble_eq_true rfl) rfl ?_
        refine r_iload_n dX9_book_35 rfl ?_
        refine r_iload_n dX9_book_36 rfl ?_
        refine r_iload_n dX9_book_37 rfl ?_
        refine r_iload dX9_book_38 rfl ?_
        refine x_callV0 (c := 0) (i := 0) hE (fun _ _ => rfl) (Nat.le_of_ble_eq_true rfl) dX9_book_40 mf_X0_write ml_RX9_132 (ok_X0_write (d := d - 1) hE hX (by omega) _ _ _ _ _ _ (Nat.le_of_ble_eq_true rfl)) rfl rfl rfl rfl (Nat.le_of_ble_eq_true rfl) (by omega) ?_
        refine r_iconst (v := (1 : Int32)) dX9_book_43 (by decide) ?_
        refine r_iret dX9_book_44 rfl rfl ?_
        exact ⟨_, rfl, by rw [f_X9_book, if_neg c1, if_neg c2, if_neg c3], by rw [f_X9_book, if_neg c1, if_neg c2, if_neg c3]⟩
      · refine r_bipush (v := (-2 : Int32)) dX9_book_28 (by decide) ?_
        refine r_iret dX9_book_30 rfl rfl ?_
        exact ⟨_, rfl, by rw [f_X9_book, if_neg c1, if_neg c2, if_pos c3], by rw [f_X9_book, if_neg c1, if_neg c2, if_pos c3]⟩

def f_X9_test (S : XSh) (σ : XSt) (p1 : Int32) (p2 : Int32) : Int32 × XSt := (if (f_X9_isBelow p1 (3 : Int32)) = 0 then ((-2 : Int32), σ) else (if (f_X9_isUpTo p2 (100 : Int32)) = 0 then ((-2 : Int32), σ) else ((σ.2 22 0 (Int32.toNatClampNeg p1)), (xa σ 22 0 (Int32.toNatClampNeg p1) p2))))
set_option maxRecDepth 100000 in
set_option maxHeartbeats 1000000 in
theorem ok_X9_test {g : GC} {B : hH} {am : XAd} {S : XSh} {d : Nat} (hE : XOk am S) (hX : GX g) (hd : 1 ≤ d) (σ : XSt) (p1 : Int32) (p2 : Int32)  : XC g B am S d yX9_test cX9_test 4 (some FieldType.int) [.ref (am 9 0), .int p1, .int p2] (fun v σ' => v = some (.int (f_X9_test S σ p1 p2).1) ∧ σ' = (f_X9_test S σ p1 p2).2) σ := by
  refine AM.of2 (own := RX9) (nm := "test") (L0 := [(0, .ref (am 9 0)), (1, .int p1), (2, .int p2)]) (by decide) rfl rfl (Nat.le_of_ble_eq_true rfl) rfl ?_
  refine r_iload_n dX9_test_0 rfl ?_
  refine r_iconst (v := (3 : Int32)) dX9_test_1 (by decide) ?_
  refine r_callS0 dX9_test_2 mf_X9_isBelow ml_RX9_136 (ok_X9_isBelow (d := d - 1) (by omega) _ _) rfl rfl (Nat.le_of_ble_eq_true rfl) (by omega) ?_
  refine r_if_eq (tgt := 17) dX9_test_5 (by decide) (fun c1 => ?_) (fun c1 => ?_)
  · refine r_bipush (v := (-2 : Int32)) dX9_test_17 (by decide) ?_
    refine r_iret dX9_test_19 rfl rfl ?_
    exact ⟨_, rfl, by rw [f_X9_test, if_pos c1], by rw [f_X9_test, if_pos c1]⟩
  · refine r_iload_n dX9_test_8 rfl ?_
    refine r_bipush (v := (100 : Int32)) dX9_test_9 (by decide) ?_
    refine r_callS0 dX9_test_11 mf_X9_isUpTo ml_RX9_106 (ok_X9_isUpTo (d := d - 1) (by omega) _ _) rfl rfl (Nat.le_of_ble_eq_true rfl) (by omega) ?_
    refine r_if_ne (tgt := 20) dX9_test_14 (by decide) (fun c2 => ?_) (fun c2 => ?_)
    · refine r_aload_n dX9_test_20 rfl ?_
      refine x_get (c := 9) hE (fun _ _ => rfl) dX9_test_21 fl_RX9_30 (Nat.le_of_ble_eq_true rfl) rfl ?_
      refine x_get (c := 0) hE (fun _ _ => rfl) dX9_test_24 fl_RX9_139 (Nat.le_of_ble_eq_true rfl) rfl ?_
      refine r_iload_n dX9_test_27 rfl ?_
      refine x_ialdV (c := 22) (i := 0) (N := 3) (x := (σ.2 22 0 (Int32.toNatClampNeg p1))) hE (fun _ _ => rfl) dX9_test_28 (Nat.le_of_ble_eq_true rfl) (by exact below_k (m := 3) (M := 3) rfl (by decide) (by with_reducible assumption)) rfl ?_
      refine r_istore_n dX9_test_29 (by decide) ?_
      refine r_aload_n dX9_test_30 rfl ?_
      refine x_get (c := 9) hE (fun _ _ => rfl) dX9_test_31 fl_RX9_30 (Nat.le_of_ble_eq_true rfl) rfl ?_
      refine x_get (c := 0) hE (fun _ _ => rfl) dX9_test_34 fl_RX9_139 (Nat.le_of_ble_eq_true rfl) rfl ?_
      refine r_iload_n dX9_test_37 rfl ?_
      refine r_iload_n dX9_test_38 rfl ?_
      refine x_iast (c := 22) (i := 0) (N := 3) hE (fun _ _ => rfl) dX9_test_39 (Nat.le_of_ble_eq_true rfl) (by exact below_k (m := 3) (M := 3) rfl (by decide) (by with_reducible assumption)) ?_
      refine r_iload_n dX9_test_40 rfl ?_
      refine r_iret dX9_test_41 rfl rfl ?_
      exact ⟨_, rfl, by rw [f_X9_test, if_neg c1, if_neg c2], by rw [f_X9_test, if_neg c1, if_neg c2]⟩
    · refine r_bipush (v := (-2 : Int32)) dX9_test_17 (by decide) ?_
      refine r_iret dX9_test_19 rfl rfl ?_
      exact ⟨_, rfl, by rw [f_X9_test, if_neg c1, if_pos c2], by rw [f_X9_test, if_neg c1, if_pos c2]⟩

def f_X9_told (S : XSh) (σ : XSt) (p1 : Int32) (p2 : Int32) : Int32 × XSt := (if (f_X9_bottleAt S σ p1) = 0 then ((-5 : Int32), σ) else (if p2 = (0 : Int32) then ((σ.1 1 (Int32.toNatClampNeg p1) 0), σ) else if p2 = (1 : Int32) then ((σ.1 8 (S 1 (Int32.toNatClampNeg p1)) 0), σ) else if p2 = (2 : Int32) then ((f_X9_barBits S σ (Int32.toNatClampNeg p1)), σ) else if p2 = (3 : Int32) then ((f_X9_oddBits S σ (Int32.toNatClampNeg p1)), σ) else if p2 = (4 : Int32) then (if (f_X9_isBarred S σ (Int32.toNatClampNeg p1)) = 0 then ((0 : Int32), σ) else ((1 : Int32), σ)) else if p2 = (5 : Int32) then ((σ.1 1 (Int32.toNatClampNeg p1) 6), σ) else if p2 = (6 : Int32) then ((f_X9_weightOf (σ.1 1 (Int32.toNatClampNeg p1) 0)), σ) else if p2 = (7 : Int32) then ((σ.1 1 (Int32.toNatClampNeg p1) 5), σ) else if p2 = (8 : Int32) then ((f_X9_judged S σ (Int32.toNatClampNeg p1) (0 : Int32)).1, (f_X9_judged S σ (Int32.toNatClampNeg p1) (0 : Int32)).2) else if p2 = (9 : Int32) then ((f_X9_judged S σ (Int32.toNatClampNeg p1) (1 : Int32)).1, (f_X9_judged S σ (Int32.toNatClampNeg p1) (1 : Int32)).2) else if p2 = (10 : Int32) then ((f_X9_judged S σ (Int32.toNatClampNeg p1) (2 : Int32)).1, (f_X9_judged S σ (Int32.toNatClampNeg p1) (2 : Int32)).2) else ((-5 : Int32), σ)))
set_option maxRecDepth 100000 in
set_option maxHeartbeats 1000000 in
theorem ok_X9_told {g : GC} {B : hH} {am : XAd} {S : XSh} {d : Nat} (hE : XOk am S) (hX : GX g) (hd : 5 ≤ d) (σ : XSt) (p1 : Int32) (p2 : Int32) (h0 : XInv S σ) : XC g B am S d yX9_told cX9_told 4 (some FieldType.int) [.ref (am 9 0), .int p1, .int p2] (fun v σ' => v = some (.int (f_X9_told S σ p1 p2).1) ∧ σ' = (f_X9_told S σ p1 p2).2) σ := by
  refine AM.of2 (own := RX9) (nm := "told") (L0 := [(0, .ref (am 9 0)), (1, .int p1), (2, .int p2)]) (by decide) rfl rfl (Nat.le_of_ble_eq_true rfl) rfl ?_
  refine r_aload_n dX9_told_0 rfl ?_
  refine r_iload_n dX9_told_1 rfl ?_
  by_cases c1 : (f_X9_bottleAt S σ p1) = 0
  · refine x_callW (c := 9) (i := 0) hE (fun _ _ => rfl) (Nat.le_of_ble_eq_true rfl) dX9_told_2 mf_X9_bottleAt ml_RX9_148 (ok_X9_bottleAt (d := d - 1) hE hX (by omega) _ _ (by with_reducible assumption)) rfl rfl rfl rfl (Nat.le_of_ble_eq_true rfl) (by omega) ?_
    rw [if_pos c1]
    refine r_astore_nN dX9_told_5 (by decide) ?_
    refine r_aload_nN dX9_told_6 rfl ?_
    refine r_ifnonnullN dX9_told_7 ?_
    refine r_bipush (v := (-5 : Int32)) dX9_told_10 (by decide) ?_
    refine r_iret dX9_told_12 rfl rfl ?_
    exact ⟨_, rfl, by rw [f_X9_told, if_pos c1], by rw [f_X9_told, if_pos c1]⟩
  · refine x_callW (c := 9) (i := 0) hE (fun _ _ => rfl) (Nat.le_of_ble_eq_true rfl) dX9_told_2 mf_X9_bottleAt ml_RX9_148 (ok_X9_bottleAt (d := d - 1) hE hX (by omega) _ _ (by with_reducible assumption)) rfl rfl rfl rfl (Nat.le_of_ble_eq_true rfl) (by omega) ?_
    rw [if_neg c1]
    have lc1 := lv_X9_bottleAt h0 c1
    refine r_astore_n dX9_told_5 (by decide) ?_
    refine r_aload_n dX9_told_6 rfl ?_
    refine r_ifnonnull (tgt := 13) dX9_told_7 (by decide) ?_
    refine r_iload_n dX9_told_13 rfl ?_
    by_cases c2 : p2 = (0 : Int32)
    · refine r_tabK (tgt := 72) dX9_told_14 c2 (by decide) (by decide) rfl (by decide) ?_
      refine r_aload_n dX9_told_72 rfl ?_
      refine x_getI (c := 1) (x := (σ.1 1 (Int32.toNatClampNeg p1) 0)) hE (fun _ _ => rfl) (fun _ => rfl) dX9_told_73 fl_RX9_152 (by first | with_reducible assumption | exact h0.lab (by with_reducible assumption) | exact h0.ins (by with_reducible assumption)) rfl ?_
      refine r_iret dX9_told_76 rfl rfl ?_
      exact ⟨_, rfl, by rw [f_X9_told, if_neg c1, if_pos c2], by rw [f_X9_told, if_neg c1, if_pos c2]⟩
    by_cases c3 : p2 = (1 : Int32)
    · refine r_tabK (tgt := 77) dX9_told_14 c3 (by decide) (by decide) rfl (by decide) ?_
      refine r_aload_n dX9_told_77 rfl ?_
      refine x_get (c := 1) hE (fun _ _ => rfl) dX9_told_78 fl_RX9_155 (by first | with_reducible assumption | exact h0.lab (by with_reducible assumption) | exact h0.ins (by with_reducible assumption)) rfl ?_
      refine x_getI (c := 8) (x := (σ.1 8 (S 1 (Int32.toNatClampNeg p1)) 0)) hE (fun _ _ => rfl) (fun _ => rfl) dX9_told_81 fl_RX9_159 (by first | with_reducible assumption | exact h0.lab (by with_reducible assumption) | exact h0.ins (by with_reducible assumption)) rfl ?_
      refine r_iret dX9_told_84 rfl rfl ?_
      exact ⟨_, rfl, by rw [f_X9_told, if_neg c1, if_neg c2, if_pos c3], by rw [f_X9_told, if_neg c1, if_neg c2, if_pos c3]⟩
    by_cases c4 : p2 = (2 : Int32)
    · refine r_tabK (tgt := 85) dX9_told_14 c4 (by decide) (by decide) rfl (by decide) ?_
      refine r_aload_n dX9_told_85 rfl ?_
      refine r_aload_n dX9_told_86 rfl ?_
      refine x_callW (c := 9) (i := 0) hE (fun _ _ => rfl) (Nat.le_of_ble_eq_true rfl) dX9_told_87 mf_X9_barBits ml_RX9_162 (ok_X9_barBits (d := d - 1) hE hX (by omega) _ _ (by first | with_reducible assumption | exact h0.lab (by with_reducible assumption) | exact h0.ins (by with_reducible assumption)) (by with_reducible assumption)) rfl rfl rfl rfl (Nat.le_of_ble_eq_true rfl) (by omega) ?_
      refine r_iret dX9_told_90 rfl rfl ?_
      exact ⟨_, rfl, by rw [f_X9_told, if_neg c1, if_neg c2, if_neg c3, if_pos c4], by rw [f_X9_told, if_neg c1, if_neg c2, if_neg c3, if_pos c4]⟩
    by_cases c5 : p2 = (3 : Int32)
    · refine r_tabK (tgt := 91) dX9_told_14 c5 (by decide) (by decide) rfl (by decide) ?_
      refine r_aload_n dX9_told_91 rfl ?_
      refine r_aload_n dX9_told_92 rfl ?_
      refine x_callW (c := 9) (i := 0) hE (fun _ _ => rfl) (Nat.le_of_ble_eq_true rfl) dX9_told_93 mf_X9_oddBits ml_RX9_166 (ok_X9_oddBits (d := d - 1) hE hX (by omega) _ _ (by first | with_reducible assumption | exact h0.lab (by with_reducible assumption) | exact h0.ins (by with_reducible assumption)) (by with_reducible assumption)) rfl rfl rfl rfl (Nat.le_of_ble_eq_true rfl) (by omega) ?_
      refine r_iret dX9_told_96 rfl rfl ?_
      exact ⟨_, rfl, by rw [f_X9_told, if_neg c1, if_neg c2, if_neg c3, if_neg c4, if_pos c5], by rw [f_X9_told, if_neg c1, if_neg c2, if_neg c3, if_neg c4, if_pos c5]⟩
    by_cases c6 : p2 = (4 : Int32)
    · refine r_tabK (tgt := 97) dX9_told_14 c6 (by decide) (by decide) rfl (by decide) ?_
      refine r_aload_n dX9_told_97 rfl ?_
      refine r_aload_n dX9_told_98 rfl ?_
      refine x_callW (c := 9) (i := 0) hE (fun _ _ => rfl) (Nat.le_of_ble_eq_true rfl) dX9_told_99 mf_X9_isBarred ml_RX9_169 (ok_X9_isBarred (d := d - 1) hE hX (by omega) _ _ (by first | with_reducible assumption | exact h0.lab (by with_reducible assumption) | exact h0.ins (by with_reducible assumption)) (by with_reducible assumption)) rfl rfl rfl rfl (Nat.le_of_ble_eq_true rfl) (by omega) ?_
      refine r_if_eq (tgt := 109) dX9_told_102 (by decide) (fun c7 => ?_) (fun c7 => ?_)
      · refine r_iconst (v := (0 : Int32)) dX9_told_109 (by decide) ?_
        refine r_iret dX9_told_110 rfl rfl ?_
        exact ⟨_, rfl, by rw [f_X9_told, if_neg c1, if_neg c2, if_neg c3, if_neg c4, if_neg c5, if_pos c6, if_pos c7], by rw [f_X9_told, if_neg c1, if_neg c2, if_neg c3, if_neg c4, if_neg c5, if_pos c6, if_pos c7]⟩
      · refine r_iconst (v := (1 : Int32)) dX9_told_105 (by decide) ?_
        refine r_goto (tgt := 110) dX9_told_106 (by decide) ?_
        refine r_iret dX9_told_110 rfl rfl ?_
        exact ⟨_, rfl, by rw [f_X9_told, if_neg c1, if_neg c2, if_neg c3, if_neg c4, if_neg c5, if_pos c6, if_neg c7], by rw [f_X9_told, if_neg c1, if_neg c2, if_neg c3, if_neg c4, if_neg c5, if_pos c6, if_neg c7]⟩
    by_cases c8 : p2 = (5 : Int32)
    · refine r_tabK (tgt := 111) dX9_told_14 c8 (by decide) (by decide) rfl (by decide) ?_
      refine r_aload_n dX9_told_111 rfl ?_
      refine x_getI (c := 1) (x := (σ.1 1 (Int32.toNatClampNeg p1) 6)) hE (fun _ _ => rfl) (fun _ => rfl) dX9_told_112 fl_RX9_173 (by first | with_reducible assumption | exact h0.lab (by with_reducible assumption) | exact h0.ins (by with_reducible assumption)) rfl ?_
      refine r_iret dX9_told_115 rfl rfl ?_
      exact ⟨_, rfl, by rw [f_X9_told, if_neg c1, if_neg c2, if_neg c3, if_neg c4, if_neg c5, if_neg c6, if_pos c8], by rw [f_X9_told, if_neg c1, if_neg c2, if_neg c3, if_neg c4, if_neg c5, if_neg c6, if_pos c8]⟩
    by_cases c9 : p2 = (6 : Int32)
    · refine r_tabK (tgt := 116) dX9_told_14 c9 (by decide) (by decide) rfl (by decide) ?_
      refine r_aload_n dX9_told_116 rfl ?_
      refine x_getI (c := 1) (x := (σ.1 1 (Int32.toNatClampNeg p1) 0)) hE (fun _ _ => rfl) (fun _ => rfl) dX9_told_117 fl_RX9_152 (by first | with_reducible assumption | exact h0.lab (by with_reducible assumption) | exact h0.ins (by with_reducible assumption)) rfl ?_
      refine r_callS0 dX9_told_120 mf_X9_weightOf ml_RX9_176 (ok_X9_weightOf (d := d - 1) hX (by omega) _) rfl rfl (Nat.le_of_ble_eq_true rfl) (by omega) ?_
      refine r_iret dX9_told_123 rfl rfl ?_
      exact ⟨_, rfl, by rw [f_X9_told, if_neg c1, if_neg c2, if_neg c3, if_neg c4, if_neg c5, if_neg c6, if_neg c8, if_pos c9], by rw [f_X9_told, if_neg c1, if_neg c2, if_neg c3, if_neg c4, if_neg c5, if_neg c6, if_neg c8, if_pos c9]⟩
    by_cases c10 : p2 = (7 : Int32)
    · refine r_tabK (tgt := 124) dX9_told_14 c10 (by decide) (by decide) rfl (by decide) ?_
      refine r_aload_n dX9_told_124 rfl ?_
      refine x_getI (c := 1) (x := (σ.1 1 (Int32.toNatClampNeg p1) 5)) hE (fun _ _ => rfl) (fun _ => rfl) dX9_told_125 fl_RX9_180 (by first | with_reducible assumption | exact h0.lab (by with_reducible assumption) | exact h0.ins (by with_reducible assumption)) rfl ?_
      refine r_iret dX9_told_128 rfl rfl ?_
      exact ⟨_, rfl, by rw [f_X9_told, if_neg c1, if_neg c2, if_neg c3, if_neg c4, if_neg c5, if_neg c6, if_neg c8, if_neg c9, if_pos c10], by rw [f_X9_told, if_neg c1, if_neg c2, if_neg c3, if_neg c4, if_neg c5, if_neg c6, if_neg c8, if_neg c9, if_pos c10]⟩
    by_cases c11 : p2 = (8 : Int32)
    · refine r_tabK (tgt := 129) dX9_told_14 c11 (by decide) (by decide) rfl (by decide) ?_
      refine r_aload_n dX9_told_129 rfl ?_
      refine r_aload_n dX9_told_130 rfl ?_
      refine r_iconst (v := (0 : Int32)) dX9_told_131 (by decide) ?_
      refine x_callW (c := 9) (i := 0) hE (fun _ _ => rfl) (Nat.le_of_ble_eq_true rfl) dX9_told_132 mf_X9_judged ml_RX9_183 (ok_X9_judged (d := d - 1) hE hX (by omega) _ _ _ (by first | with_reducible assumption | exact h0.lab (by with_reducible assumption) | exact h0.ins (by with_reducible assumption)) (by with_reducible assumption)) rfl rfl rfl rfl (Nat.le_of_ble_eq_true rfl) (by omega) ?_
      refine r_iret dX9_told_135 rfl rfl ?_
      exact ⟨_, rfl, by rw [f_X9_told, if_neg c1, if_neg c2, if_neg c3, if_neg c4, if_neg c5, if_neg c6, if_neg c8, if_neg c9, if_neg c10, if_pos c11], by rw [f_X9_told, if_neg c1, if_neg c2, if_neg c3, if_neg c4, if_neg c5, if_neg c6, if_neg c8, if_neg c9, if_neg c10, if_pos c11]⟩
    by_cases c12 : p2 = (9 : Int32)
    · refine r_tabK (tgt := 136) dX9_told_14 c12 (by decide) (by decide) rfl (by decide) ?_
      refine r_aload_n dX9_told_136 rfl ?_
      refine r_aload_n dX9_told_137 rfl ?_
      refine r_iconst (v := (1 : Int32)) dX9_told_138 (by decide) ?_
      refine x_callW (c := 9) (i := 0) hE (fun _ _ => rfl) (Nat.le_of_ble_eq_true rfl) dX9_told_139 mf_X9_judged ml_RX9_183 (ok_X9_judged (d := d - 1) hE hX (by omega) _ _ _ (by first | with_reducible assumption | exact h0.lab (by with_reducible assumption) | exact h0.ins (by with_reducible assumption)) (by with_reducible assumption)) rfl rfl rfl rfl (Nat.le_of_ble_eq_true rfl) (by omega) ?_
      refine r_iret dX9_told_142 rfl rfl ?_
      exact ⟨_, rfl, by rw [f_X9_told, if_neg c1, if_neg c2, if_neg c3, if_neg c4, if_neg c5, if_neg c6, if_neg c8, if_neg c9, if_neg c10, if_neg c11, if_pos c12], by rw [f_X9_told, if_neg c1, if_neg c2, if_neg c3, if_neg c4, if_neg c5, if_neg c6, if_neg c8, if_neg c9, if_neg c10, if_neg c11, if_pos c12]⟩
    by_cases c13 : p2 = (10 : Int32)
    · refine r_tabK (tgt := 143) dX9_told_14 c13 (by decide) (by decide) rfl (by decide) ?_
      refine r_aload_n dX9_told_143 rfl ?_
      refine r_aload_n dX9_told_144 rfl ?_
      refine r_iconst (v := (2 : Int32)) dX9_told_145 (by decide) ?_
      refine x_callW (c := 9) (i := 0) hE (fun _ _ => rfl) (Nat.le_of_ble_eq_true rfl) dX9_told_146 mf_X9_judged ml_RX9_183 (ok_X9_judged (d := d - 1) hE hX (by omega) _ _ _ (by first | with_reducible assumption | exact h0.lab (by with_reducible assumption) | exact h0.ins (by with_reducible assumption)) (by with_reducible assumption)) rfl rfl rfl rfl (Nat.le_of_ble_eq_true rfl) (by omega) ?_
      refine r_iret dX9_told_149 rfl rfl ?_
      exact ⟨_, rfl, by rw [f_X9_told, if_neg c1, if_neg c2, if_neg c3, if_neg c4, if_neg c5, if_neg c6, if_neg c8, if_neg c9, if_neg c10, if_neg c11, if_neg c12, if_pos c13], by rw [f_X9_told, if_neg c1, if_neg c2, if_neg c3, if_neg c4, if_neg c5, if_neg c6, if_neg c8, if_neg c9, if_neg c10, if_neg c11, if_neg c12, if_pos c13]⟩
    refine r_tabOut (tgt := 150) dX9_told_14 (by have e0 : (p2).toInt ≠ 0 := ne_toInt c2; have e1 : (p2).toInt ≠ 1 := ne_toInt c3; have e2 : (p2).toInt ≠ 2 := ne_toInt c4; have e3 : (p2).toInt ≠ 3 := ne_toInt c5; have e4 : (p2).toInt ≠ 4 := ne_toInt c6; have e5 : (p2).toInt ≠ 5 := ne_toInt c8; have e6 : (p2).toInt ≠ 6 := ne_toInt c9; have e7 : (p2).toInt ≠ 7 := ne_toInt c10; have e8 : (p2).toInt ≠ 8 := ne_toInt c11; have e9 : (p2).toInt ≠ 9 := ne_toInt c12; have e10 : (p2).toInt ≠ 10 := ne_toInt c13; omega) (by decide) ?_
    refine r_bipush (v := (-5 : Int32)) dX9_told_150 (by decide) ?_
    refine r_iret dX9_told_152 rfl rfl ?_
    exact ⟨_, rfl, by rw [f_X9_told, if_neg c1, if_neg c2, if_neg c3, if_neg c4, if_neg c5, if_neg c6, if_neg c8, if_neg c9, if_neg c10, if_neg c11, if_neg c12, if_neg c13], by rw [f_X9_told, if_neg c1, if_neg c2, if_neg c3, if_neg c4, if_neg c5, if_neg c6, if_neg c8, if_neg c9, if_neg c10, if_neg c11, if_neg c12, if_neg c13]⟩

def f_X9_shows (S : XSh) (σ : XSt) (p1 : Int32) (p2 : Int32) : Int32 := (if (f_X9_bottleAt S σ p1) = 0 then (-2 : Int32) else (if (f_X9_isBelow p2 (6 : Int32)) = 0 then (-2 : Int32) else (if (3 : Int32) ≤ p2 then (f_X1_tasted S σ (Int32.toNatClampNeg p1) (p2 - (3 : Int32))) else (f_X9_partOf (σ.1 1 (Int32.toNatClampNeg p1) 3) p2))))
set_option maxRecDepth 100000 in
set_option maxHeartbeats 1000000 in
theorem ok_X9_shows {g : GC} {B : hH} {am : XAd} {S : XSh} {d : Nat} (hE : XOk am S) (hX : GX g) (hd : 2 ≤ d) (σ : XSt) (p1 : Int32) (p2 : Int32) (h0 : XInv S σ) : XC g B am S d yX9_shows cX9_shows 4 (some FieldType.int) [.ref (am 9 0), .int p1, .int p2] (fun v σ' => v = some (.int (f_X9_shows S σ p1 p2)) ∧ σ' = σ) σ := by
  refine AM.of2 (own := RX9) (nm := "shows") (L0 := [(0, .ref (am 9 0)), (1, .int p1), (2, .int p2)]) (by decide) rfl rfl (Nat.le_of_ble_eq_true rfl) rfl ?_
  refine r_aload_n dX9_shows_0 rfl ?_
  refine r_iload_n dX9_shows_1 rfl ?_
  by_cases c1 : (f_X9_bottleAt S σ p1) = 0
  · refine x_callW (c := 9) (i := 0) hE (fun _ _ => rfl) (Nat.le_of_ble_eq_true rfl) dX9_shows_2 mf_X9_bottleAt ml_RX9_148 (ok_X9_bottleAt (d := d - 1) hE hX (by omega) _ _ (by with_reducible assumption)) rfl rfl rfl rfl (Nat.le_of_ble_eq_true rfl) (by omega) ?_
    rw [if_pos c1]
    refine r_astore_nN dX9_shows_5 (by decide) ?_
    refine r_aload_nN dX9_shows_6 rfl ?_
    refine r_ifnullN (tgt := 19) dX9_shows_7 (by decide) ?_
    refine r_bipush (v := (-2 : Int32)) dX9_shows_19 (by decide) ?_
    refine r_iret dX9_shows_21 rfl rfl ?_
    exact ⟨_, rfl, by rw [f_X9_shows, if_pos c1], rfl⟩
  · refine x_callW (c := 9) (i := 0) hE (fun _ _ => rfl) (Nat.le_of_ble_eq_true rfl) dX9_shows_2 mf_X9_bottleAt ml_RX9_148 (ok_X9_bottleAt (d := d - 1) hE hX (by omega) _ _ (by with_reducible assumption)) rfl rfl rfl rfl (Nat.le_of_ble_eq_true rfl) (by omega) ?_
    rw [if_neg c1]
    have lc1 := lv_X9_bottleAt h0 c1
    refine r_astore_n dX9_shows_5 (by decide) ?_
    refine r_aload_n dX9_shows_6 rfl ?_
    refine r_ifnull dX9_shows_7 ?_
    refine r_iload_n dX9_shows_10 rfl ?_
    refine r_bipush (v := (6 : Int32)) dX9_shows_11 (by decide) ?_
    refine r_callS0 dX9_shows_13 mf_X9_isBelow ml_RX9_136 (ok_X9_isBelow (d := d - 1) (by omega) _ _) rfl rfl (Nat.le_of_ble_eq_true rfl) (by omega) ?_
    refine r_if_ne (tgt := 22) dX9_shows_16 (by decide) (fun c2 => ?_) (fun c2 => ?_)
    · refine r_iload_n dX9_shows_22 rfl ?_
      refine r_iconst (v := (3 : Int32)) dX9_shows_23 (by decide) ?_
      refine r_icmp_ge (tgt := 38) dX9_shows_24 (by decide) (fun c3 => ?_) (fun c3 => ?_)
      · refine r_aload_n dX9_shows_38 rfl ?_
        refine r_iload_n dX9_shows_39 rfl ?_
        refine r_iconst (v := (3 : Int32)) dX9_shows_40 (by decide) ?_
        refine r_isub dX9_shows_41 ?_
        refine x_callW (c := 1) (i := (Int32.toNatClampNeg p1)) hE (fun _ _ => rfl) (by first | with_reducible assumption | exact h0.lab (by with_reducible assumption) | exact h0.ins (by with_reducible assumption)) dX9_shows_42 mf_X1_tasted ml_RX9_193 (ok_X1_tasted (d := d - 1) hE hX (by omega) _ _ _ (by first | with_reducible assumption | exact h0.lab (by with_reducible assumption) | exact h0.ins (by with_reducible assumption)) (by with_reducible assumption)) rfl rfl rfl rfl (Nat.le_of_ble_eq_true rfl) (by omega) ?_
        refine r_iret dX9_shows_45 rfl rfl ?_
        exact ⟨_, rfl, by rw [f_X9_shows, if_neg c1, if_neg c2, if_pos c3], rfl⟩
      · refine r_aload_n dX9_shows_27 rfl ?_
        refine x_getI (c := 1) (x := (σ.1 1 (Int32.toNatClampNeg p1) 3)) hE (fun _ _ => rfl) (fun _ => rfl) dX9_shows_28 fl_RX9_187 (by first | with_reducible assumption | exact h0.lab (by with_reducible assumption) | exact h0.ins (by with_reducible assumption)) rfl ?_
        refine r_iload_n dX9_shows_31 rfl ?_
        refine r_callS0 dX9_shows_32 mf_X9_partOf ml_RX9_190 (ok_X9_partOf (d := d - 1) (by omega) _ _) rfl rfl (Nat.le_of_ble_eq_true rfl) (by omega) ?_
        refine r_goto (tgt := 45) dX9_shows_35 (by decide) ?_
        refine r_iret dX9_shows_45 rfl rfl ?_
        exact ⟨_, rfl, by rw [f_X9_shows, if_neg c1, if_neg c2, if_neg c3], rfl⟩
    · refine r_bipush (v := (-2 : Int32)) dX9_shows_19 (by decide) ?_
      refine r_iret dX9_shows_21 rfl rfl ?_
      exact ⟨_, rfl, by rw [f_X9_shows, if_neg c1, if_pos c2], rfl⟩

def f_X9_sale (S : XSh) (σ : XSt) (p1 : Int32) (p2 : Int32) (p3 : Int32) (p4 : Int32) : Int32 × XSt := (if (f_X9_bottleAt S σ p1) = 0 then ((-2 : Int32), σ) else (if (f_X9_isUpTo p2 (99 : Int32)) = 0 then ((-2 : Int32), σ) else (if (p2 / (10 : Int32)) = (p2 - p2 / (10 : Int32) * (10 : Int32)) then ((-2 : Int32), σ) else (if (f_X9_isUpTo p3 (9999 : Int32)) = 0 then ((-2 : Int32), σ) else (if (f_X9_isUpTo p4 (99 : Int32)) = 0 then ((-2 : Int32), σ) else (if (σ.1 1 (Int32.toNatClampNeg p1) 8) ≤ p4 then (if (σ.1 3 0 5) < (40 : Int32) then ((f_X3_write S σ p1 p2 p3 p4).1, (f_X1_passOn S (f_X3_write S σ p1 p2 p3 p4).2 (Int32.toNatClampNeg p1) (p2 / (10 : Int32)) (p2 - p2 / (10 : Int32) * (10 : Int32)) p4)) else ((-4 : Int32), σ)) else ((-2 : Int32), σ)))))))
set_option maxRecDepth 100000 in
set_option maxHeartbeats 1000000 in
theorem ok_X9_sale {g : GC} {B : hH} {am : XAd} {S : XSh} {d : Nat} (hE : XOk am S) (hX : GX g) (hd : 2 ≤ d) (σ : XSt) (p1 : Int32) (p2 : Int32) (p3 : Int32) (p4 : Int32) (h0 : XInv S σ) : XC g B am S d yX9_sale cX9_sale 7 (some FieldType.int) [.ref (am 9 0), .int p1, .int p2, .int p3, .int p4] (fun v σ' => v = some (.int (f_X9_sale S σ p1 p2 p3 p4).1) ∧ σ' = (f_X9_sale S σ p1 p2 p3 p4).2) σ := by
  refine AM.of2 (own := RX9) (nm := "sale") (L0 := [(0, .ref (am 9 0)), (1, .int p1), (2, .int p2), (3, .int p3), (4, .int p4)]) (by decide) rfl rfl (Nat.le_of_ble_eq_true rfl) rfl ?_
  refine r_aload_n dX9_sale_0 rfl ?_
  refine r_iload_n dX9_sale_1 rfl ?_
  by_cases c1 : (f_X9_bottleAt S σ p1) = 0
  · refine x_callW (c := 9) (i := 0) hE (fun _ _ => rfl) (Nat.le_of_ble_eq_true rfl) dX9_sale_2 mf_X9_bottleAt ml_RX9_148 (ok_X9_bottleAt (d := d - 1) hE hX (by omega) _ _ (by first | with_reducible assumption | exact h0.ns)) rfl rfl rfl rfl (Nat.le_of_ble_eq_true rfl) (by omega) ?_
    rw [if_pos c1]
    refine r_astoreN dX9_sale_5 (by decide) ?_
    refine r_aloadN dX9_sale_7 rfl ?_
    refine r_ifnullN (tgt := 62) dX9_sale_9 (by decide) ?_
    refine r_bipush (v := (-2 : Int32)) dX9_sale_62 (by decide) ?_
    refine r_iret dX9_sale_64 rfl rfl ?_
    exact ⟨_, rfl, by rw [f_X9_sale, if_pos c1], by rw [f_X9_sale, if_pos c1]⟩
  · refine x_callW (c := 9) (i := 0) hE (fun _ _ => rfl) (Nat.le_of_ble_eq_true rfl) dX9_sale_2 mf_X9_bottleAt ml_RX9_148 (ok_X9_bottleAt (d := d - 1) hE hX (by omega) _ _ (by first | with_reducible assumption | exact h0.ns)) rfl rfl rfl rfl (Nat.le_of_ble_eq_true rfl) (by omega) ?_
    rw [if_neg c1]
    have lc1 := lv_X9_bottleAt h0 c1
    refine r_astore dX9_sale_5 (by decide) ?_
    refine r_aload dX9_sale_7 rfl ?_
    refine r_ifnull dX9_sale_9 ?_
    refine r_iload_n dX9_sale_12 rfl ?_
    refine r_bipush (v := (99 : Int32)) dX9_sale_13 (by decide) ?_
    refine r_callS0 dX9_sale_15 mf_X9_isUpTo ml_RX9_106 (ok_X9_isUpTo (d := d - 1) (by omega) _ _) rfl rfl (Nat.le_of_ble_eq_true rfl) (by omega) ?_
    refine r_if_eq (tgt := 62) dX9_sale_18 (by decide) (fun c2 => ?_) (fun c2 => ?_)
    · refine r_bipush (v := (-2 : Int32)) dX9_sale_62 (by decide) ?_
      refine r_iret dX9_sale_64 rfl rfl ?_
      exact ⟨_, rfl, by rw [f_X9_sale, if_neg c1, if_pos c2], by rw [f_X9_sale, if_neg c1, if_pos c2]⟩
    · refine r_iload_n dX9_sale_21 rfl ?_
      refine r_bipush (v := (10 : Int32)) dX9_sale_22 (by decide) ?_
      refine r_idiv dX9_sale_24 (by decide) ?_
      refine r_iload_n dX9_sale_25 rfl ?_
      refine r_bipush (v := (10 : Int32)) dX9_sale_26 (by decide) ?_
      refine r_irem dX9_sale_28 (by decide) ?_
      refine r_icmp_eq (tgt := 62) dX9_sale_29 (by decide) (fun c3 => ?_) (fun c3 => ?_)
      · refine r_bipush (v := (-2 : Int32)) dX9_sale_62 (by decide) ?_
        refine r_iret dX9_sale_64 rfl rfl ?_
        exact ⟨_, rfl, by rw [f_X9_sale, if_neg c1, if_neg c2, if_pos c3], by rw [f_X9_sale, if_neg c1, if_neg c2, if_pos c3]⟩
      · refine r_iload_n dX9_sale_32 rfl ?_
        refine r_sipush (v := (9999 : Int32)) dX9_sale_33 (by decide) ?_
        refine r_callS0 dX9_sale_36 mf_X9_isUpTo ml_RX9_106 (ok_X9_isUpTo (d := d - 1) (by omega) _ _) rfl rfl (Nat.le_of_ble_eq_true rfl) (by omega) ?_
        refine r_if_eq (tgt := 62) dX9_sale_39 (by decide) (fun c4 => ?_) (fun c4 => ?_)
        · refine r_bipush (v := (-2 : Int32)) dX9_sale_62 (by decide) ?_
          refine r_iret dX9_sale_64 rfl rfl ?_
          exact ⟨_, rfl, by rw [f_X9_sale, if_neg c1, if_neg c2, if_neg c3, if_pos c4], by rw [f_X9_sale, if_neg c1, if_neg c2, if_neg c3, if_pos c4]⟩
        · refine r_iload dX9_sale_42 rfl ?_
          refine r_bipush (v := (99 : Int32)) dX9_sale_44 (by decide) ?_
          refine r_callS0 dX9_sale_46 mf_X9_isUpTo ml_RX9_106 (ok_X9_isUpTo (d := d - 1) (by omega) _ _) rfl rfl (Nat.le_of_ble_eq_true rfl) (by omega) ?_
          refine r_if_eq (tgt := 62) dX9_sale_49 (by decide) (fun c5 => ?_) (fun c5 => ?_)
          · refine r_bipush (v := (-2 : Int32)) dX9_sale_62 (by decide) ?_
            refine r_iret dX9_sale_64 rfl rfl ?_
            exact ⟨_, rfl, by rw [f_X9_sale, if_neg c1, if_neg c2, if_neg c3, if_neg c4, if_pos c5], by rw [f_X9_sale, if_neg c1, if_neg c2, if_neg c3, if_neg c4, if_pos c5]⟩
          · refine r_iload dX9_sale_52 rfl ?_
            refine r_aload dX9_sale_54 rfl ?_
            refine x_getI (c := 1) (x := (σ.1 1 (Int32.toNatClampNeg p1) 8)) hE (fun _ _ => rfl) (fun _ => rfl) dX9_sale_56 fl_RX9_196 (by with_reducible assumption) rfl ?_
            refine r_icmp_ge (tgt := 65) dX9_sale_59 (by decide) (fun c6 => ?_) (fun c6 => ?_)
            · refine r_aload_n dX9_sale_65 rfl ?_
              refine x_get (c := 9) hE (fun _ _ => rfl) dX9_sale_66 fl_RX9_37 (Nat.le_of_ble_eq_true rfl) rfl ?_
              refine x_getI (c := 3) (x := (σ.1 3 0 5)) hE (fun _ _ => rfl) (fun _ => rfl) dX9_sale_69 fl_RX9_199 (Nat.le_of_ble_eq_true rfl) rfl ?_
              refine r_bipush (v := (40 : Int32)) dX9_sale_72 (by decide) ?_
              refine r_icmp_lt (tgt := 80) dX9_sale_74 (by decide) (fun c7 => ?_) (fun c7 => ?_)
              · refine r_aload_n dX9_sale_80 rfl ?_
                refine x_get (c := 9) hE (fun _ _ => rfl) dX9_sale_81 fl_RX9_37 (Nat.le_of_ble_eq_true rfl) rfl ?_
                refine r_iload_n dX9_sale_84 rfl ?_
                refine r_iload_n dX9_sale_85 rfl ?_
                refine r_iload_n dX9_sale_86 rfl ?_
                refine r_iload dX9_sale_87 rfl ?_
                refine x_callW (c := 3) (i := 0) hE (fun _ _ => rfl) (Nat.le_of_ble_eq_true rfl) dX9_sale_89 mf_X3_write ml_RX9_202 (ok_X3_write (d := d - 1) hE hX (by omega) _ _ _ _ _ (by first | with_reducible assumption | exact h0.ns)) rfl rfl rfl rfl (Nat.le_of_ble_eq_true rfl) (by omega) ?_
                refine r_istore dX9_sale_92 (by decide) ?_
                refine r_aload dX9_sale_94 rfl ?_
                refine r_iload_n dX9_sale_96 rfl ?_
                refine r_bipush (v := (10 : Int32)) dX9_sale_97 (by decide) ?_
                refine r_idiv dX9_sale_99 (by decide) ?_
                refine r_iload_n dX9_sale_100 rfl ?_
                refine r_bipush (v := (10 : Int32)) dX9_sale_101 (by decide) ?_
                refine r_irem dX9_sale_103 (by decide) ?_
                refine r_iload dX9_sale_104 rfl ?_
                refine x_callV0 (c := 1) (i := (Int32.toNatClampNeg p1)) hE (fun _ _ => rfl) (by with_reducible assumption) dX9_sale_106 mf_X1_passOn ml_RX9_205 (ok_X1_passOn (d := d - 1) hE hX (by omega) _ _ _ _ _ (by with_reducible assumption)) rfl rfl rfl rfl (Nat.le_of_ble_eq_true rfl) (by omega) ?_
                refine r_iload dX9_sale_109 rfl ?_
                refine r_iret dX9_sale_111 rfl rfl ?_
                exact ⟨_, rfl, by rw [f_X9_sale, if_neg c1, if_neg c2, if_neg c3, if_neg c4, if_neg c5, if_pos c6, if_pos c7], by rw [f_X9_sale, if_neg c1, if_neg c2, if_neg c3, if_neg c4, if_neg c5, if_pos c6, if_pos c7]⟩
              · refine r_bipush (v := (-4 : Int32)) dX9_sale_77 (by decide) ?_
                refine r_iret dX9_sale_79 rfl rfl ?_
                exact ⟨_, rfl, by rw [f_X9_sale, if_neg c1, if_neg c2, if_neg c3, if_neg c4, if_neg c5, if_pos c6, if_neg c7], by rw [f_X9_sale, if_neg c1, if_neg c2, if_neg c3, if_neg c4, if_neg c5, if_pos c6, if_neg c7]⟩
            · refine r_bipush (v := (-2 : Int32)) dX9_sale_62 (by decide) ?_
              refine r_iret dX9_sale_64 rfl rfl ?_
              exact ⟨_, rfl, by rw [f_X9_sale, if_neg c1, if_neg c2, if_neg c3, if_neg c4, if_neg c5, if_neg c6], by rw [f_X9_sale, if_neg c1, if_neg c2, if_neg c3, if_neg c4, if_neg c5, if_neg c6]⟩

theorem XInv.sale {S : XSh} {σ : XSt} (h : XInv S σ) {b hd p y : Int32} : XInv S (f_X9_sale S σ b hd p y).2 := by
  unfold f_X9_sale
  (repeat' split) <;> first | exact h | exact (h.wr (by
    rcases f_bottleAt h b with q | q
    · exact absurd q.1 (by assumption)
    · exact q.2)).po

def f_X9_feed_L35 : Nat → XSh → XSt → Int32 → Int64 → Int32 → Int32 × XSt
  | 0, _, σ, _, _, _ => (0, σ)
  | n + 1, S, σ, l1, l2, l4 => (if l1 ≤ l4 then ((σ.1 4 0 2), σ) else (f_X9_feed_L35 n S (f_X4_put S σ (Int64.toInt32 ((Int64.toUInt64 l2 >>> ((Int32.toInt64 ((8 : Int32) * l4)).toUInt64 &&& Int64.toUInt64 63)).toInt64))) l1 l2 (l4 + (1 : Int32))))
set_option maxRecDepth 100000 in
set_option maxHeartbeats 1000000 in
theorem lp_X9_feed_35 {g : GC} {B : hH} {am : XAd} {S : XSh} {d : Nat} {K : Option Value → XSt → Prop} (hE : XOk am S) (hX : GX g) (hd : 1 ≤ d) : ∀ (fuel : Nat) (σ : XSt) (l1 : Int32) (l2 : Int64) (l4 : Int32), Ct (σ.1 4 0 2) 160 → Ct l1 8 → Ct l4 8 → 9 - l4.toNatClampNeg < fuel → K (some (.int (f_X9_feed_L35 fuel S σ l1 l2 l4).1)) (f_X9_feed_L35 fuel S σ l1 l2 l4).2 → XW g B am S RX9 cX9_feed 5 (some FieldType.int) "feed" d K 35 [(0, .ref (am 9 0)), (1, .int l1), (2, .long l2), (4, .int l4)] [] σ := by
  intro fuel
  induction fuel with
  | zero => intro σ l1 l2 l4 i0 i1 i2 hm hK; exact absurd hm (Nat.not_lt_zero _)
  | succ n ih =>
    intro σ l1 l2 l4 i0 i1 i2 hm hK
    refine r_iload dX9_feed_35 rfl ?_
    refine r_iload_n dX9_feed_37 rfl ?_
    refine r_icmp_ge (tgt := 62) dX9_feed_38 (by decide) (fun c4 => ?_) (fun c4 => ?_)
    · refine r_aload_n dX9_feed_62 rfl ?_
      refine x_get (c := 9) hE (fun _ _ => rfl) dX9_feed_63 fl_RX9_44 (Nat.le_of_ble_eq_true rfl) rfl ?_
      refine x_getI (c := 4) (x := (σ.1 4 0 2)) hE (fun _ _ => rfl) (fun _ => rfl) dX9_feed_66 fl_RX9_209 (Nat.le_of_ble_eq_true rfl) rfl ?_
      refine r_iret dX9_feed_69 rfl rfl ?_
      exact ⟨_, rfl, by rw [f_X9_feed_L35, if_pos c4] at hK; exact hK⟩
    · refine r_aload_n dX9_feed_41 rfl ?_
      refine x_get (c := 9) hE (fun _ _ => rfl) dX9_feed_42 fl_RX9_44 (Nat.le_of_ble_eq_true rfl) rfl ?_
      refine r_lload_n dX9_feed_45 rfl ?_
      refine r_bipush (v := (8 : Int32)) dX9_feed_46 (by decide) ?_
      refine r_iload dX9_feed_48 rfl ?_
      refine r_imul dX9_feed_50 ?_
      refine r_lushr dX9_feed_51 ?_
      refine r_l2i dX9_feed_52 ?_
      refine x_callV0 (c := 4) (i := 0) hE (fun _ _ => rfl) (Nat.le_of_ble_eq_true rfl) dX9_feed_53 mf_X4_put ml_RX9_94 (ok_X4_put (d := d - 1) hE hX (by omega) _ _ (by with_reducible assumption)) rfl rfl rfl rfl (Nat.le_of_ble_eq_true rfl) (by omega) ?_
      refine r_iinc2 (w := (1 : Int32)) dX9_feed_56 rfl (by decide) (by decide) ?_
      refine r_goto (tgt := 35) dX9_feed_59 (by decide) ?_
      refine r_loc (L' := [(0, .ref (am 9 0)), (1, .int l1), (2, .long l2), (4, .int (l4 + (1 : Int32)))]) [1, 2, 3, 0] rfl ?_
      exact ih (f_X4_put S σ (Int64.toInt32 ((Int64.toUInt64 l2 >>> ((Int32.toInt64 ((8 : Int32) * l4)).toUInt64 &&& Int64.toUInt64 63)).toInt64)))  l1 l2 (l4 + (1 : Int32)) (by exact put_ct i0 _) (by exact i1) (by exact (Ct.up (by decide) i1 i2 (by with_reducible assumption)).2.1) (by have u := (Ct.up (by decide) i1 i2 (by with_reducible assumption)).2.2; omega) (by rw [f_X9_feed_L35, if_neg c4] at hK; exact hK)
def f_X9_feed (S : XSh) (σ : XSt) (p1 : Int32) (p2 : Int64) : Int32 × XSt := (if p1 < (1 : Int32) then ((-2 : Int32), σ) else (if p1 ≤ (8 : Int32) then (if p1 ≤ ((160 : Int32) - (σ.1 4 0 2)) then (f_X9_feed_L35 (10) S σ p1 p2 (0 : Int32)) else ((-4 : Int32), σ)) else ((-2 : Int32), σ)))
set_option maxRecDepth 100000 in
set_option maxHeartbeats 1000000 in
theorem ok_X9_feed {g : GC} {B : hH} {am : XAd} {S : XSh} {d : Nat} (hE : XOk am S) (hX : GX g) (hd : 1 ≤ d) (σ : XSt) (p1 : Int32) (p2 : Int64) (h0 : XInv S σ) : XC g B am S d yX9_feed cX9_feed 5 (some FieldType.int) [.ref (am 9 0), .int p1, .long p2] (fun v σ' => v = some (.int (f_X9_feed S σ p1 p2).1) ∧ σ' = (f_X9_feed S σ p1 p2).2) σ := by
  refine AM.of2 (own := RX9) (nm := "feed") (L0 := [(0, .ref (am 9 0)), (1, .int p1), (2, .long p2)]) (by decide) rfl rfl (Nat.le_of_ble_eq_true rfl) rfl ?_
  refine r_iload_n dX9_feed_0 rfl ?_
  refine r_iconst (v := (1 : Int32)) dX9_feed_1 (by decide) ?_
  refine r_icmp_lt (tgt := 11) dX9_feed_2 (by decide) (fun c1 => ?_) (fun c1 => ?_)
  · refine r_bipush (v := (-2 : Int32)) dX9_feed_11 (by decide) ?_
    refine r_iret dX9_feed_13 rfl rfl ?_
    exact ⟨_, rfl, by rw [f_X9_feed, if_pos c1], by rw [f_X9_feed, if_pos c1]⟩
  · refine r_iload_n dX9_feed_5 rfl ?_
    refine r_bipush (v := (8 : Int32)) dX9_feed_6 (by decide) ?_
    refine r_icmp_le (tgt := 14) dX9_feed_8 (by decide) (fun c2 => ?_) (fun c2 => ?_)
    · refine r_iload_n dX9_feed_14 rfl ?_
      refine r_sipush (v := (160 : Int32)) dX9_feed_15 (by decide) ?_
      refine r_aload_n dX9_feed_18 rfl ?_
      refine x_get (c := 9) hE (fun _ _ => rfl) dX9_feed_19 fl_RX9_44 (Nat.le_of_ble_eq_true rfl) rfl ?_
      refine x_getI (c := 4) (x := (σ.1 4 0 2)) hE (fun _ _ => rfl) (fun _ => rfl) dX9_feed_22 fl_RX9_209 (Nat.le_of_ble_eq_true rfl) rfl ?_
      refine r_isub dX9_feed_25 ?_
      refine r_icmp_le (tgt := 32) dX9_feed_26 (by decide) (fun c3 => ?_) (fun c3 => ?_)
      · refine r_iconst (v := (0 : Int32)) dX9_feed_32 (by decide) ?_
        refine r_istore dX9_feed_33 (by decide) ?_
        refine r_loc (L' := [(0, .ref (am 9 0)), (1, .int p1), (2, .long p2), (4, .int (0 : Int32))]) [1, 2, 3, 0] rfl ?_
        exact lp_X9_feed_35 hE hX (by omega) (10) σ p1 p2 (0 : Int32) (by exact h0.tp) (by exact ct_rg8 (by with_reducible assumption) (by with_reducible assumption)) (by exact Ct.zero _) (by omega) ⟨by rw [f_X9_feed, if_neg c1, if_pos c2, if_pos c3], by rw [f_X9_feed, if_neg c1, if_pos c2, if_pos c3]⟩
      · refine r_bipush (v := (-4 : Int32)) dX9_feed_29 (by decide) ?_
        refine r_iret dX9_feed_31 rfl rfl ?_
        exact ⟨_, rfl, by rw [f_X9_feed, if_neg c1, if_pos c2, if_neg c3], by rw [f_X9_feed, if_neg c1, if_pos c2, if_neg c3]⟩
    · refine r_bipush (v := (-2 : Int32)) dX9_feed_11 (by decide) ?_
      refine r_iret dX9_feed_13 rfl rfl ?_
      exact ⟨_, rfl, by rw [f_X9_feed, if_neg c1, if_neg c2], by rw [f_X9_feed, if_neg c1, if_neg c2]⟩

def f_X9_force (S : XSh) (σ : XSt) (p1 : Int32) : Int32 × XSt := (if (f_X9_isBelow p1 (σ.1 9 0 5)) = 0 then ((-2 : Int32), σ) else ((σ.1 9 0 6), (xp σ 9 0 6 p1)))
set_option maxRecDepth 100000 in
set_option maxHeartbeats 1000000 in
theorem ok_X9_force {g : GC} {B : hH} {am : XAd} {S : XSh} {d : Nat} (hE : XOk am S) (hX : GX g) (hd : 1 ≤ d) (σ : XSt) (p1 : Int32) (h0 : XInv S σ) : XC g B am S d yX9_force cX9_force 3 (some FieldType.int) [.ref (am 9 0), .int p1] (fun v σ' => v = some (.int (f_X9_force S σ p1).1) ∧ σ' = (f_X9_force S σ p1).2) σ := by
  refine AM.of2 (own := RX9) (nm := "force") (L0 := [(0, .ref (am 9 0)), (1, .int p1)]) (by decide) rfl rfl (Nat.le_of_ble_eq_true rfl) rfl ?_
  refine r_iload_n dX9_force_0 rfl ?_
  refine r_aload_n dX9_force_1 rfl ?_
  refine x_getI (c := 9) (x := (σ.1 9 0 5)) hE (fun _ _ => rfl) (fun _ => rfl) dX9_force_2 fl_RX9_102 (Nat.le_of_ble_eq_true rfl) rfl ?_
  refine r_callS0 dX9_force_5 mf_X9_isBelow ml_RX9_136 (ok_X9_isBelow (d := d - 1) (by omega) _ _) rfl rfl (Nat.le_of_ble_eq_true rfl) (by omega) ?_
  refine r_if_ne (tgt := 14) dX9_force_8 (by decide) (fun c1 => ?_) (fun c1 => ?_)
  · refine r_aload_n dX9_force_14 rfl ?_
    refine x_getI (c := 9) (x := (σ.1 9 0 6)) hE (fun _ _ => rfl) (fun _ => rfl) dX9_force_15 fl_RX9_213 (Nat.le_of_ble_eq_true rfl) rfl ?_
    refine r_istore_n dX9_force_18 (by decide) ?_
    refine r_aload_n dX9_force_19 rfl ?_
    refine r_iload_n dX9_force_20 rfl ?_
    refine x_put (c := 9) (i := 0) (k := 6) hE (fun _ _ => rfl) dX9_force_21 fp_RX9_213 (Nat.le_of_ble_eq_true rfl) rfl rfl (fun _ => Nat.le_of_ble_eq_true rfl) (fun _ _ => rfl) ?_
    refine r_iload_n dX9_force_24 rfl ?_
    refine r_iret dX9_force_25 rfl rfl ?_
    exact ⟨_, rfl, by rw [f_X9_force, if_neg c1], by rw [f_X9_force, if_neg c1]⟩
  · refine r_bipush (v := (-2 : Int32)) dX9_force_11 (by decide) ?_
    refine r_iret dX9_force_13 rfl rfl ?_
    exact ⟨_, rfl, by rw [f_X9_force, if_pos c1], by rw [f_X9_force, if_pos c1]⟩

def f_X9_left (S : XSh) (σ : XSt) (p1 : Int32) (p2 : Int32) : Int32 := (if (f_X9_wineAt S σ p1) = 0 then (-2 : Int32) else (if p2 = (0 : Int32) then (f_X8_remaining S σ (Int32.toNatClampNeg p1)) else if p2 = (1 : Int32) then (if (0 : Int32) < ((f_X9_soldOf S σ p1) - (f_X8_remaining S σ (Int32.toNatClampNeg p1))) then ((f_X9_soldOf S σ p1) - (f_X8_remaining S σ (Int32.toNatClampNeg p1))) else (0 : Int32)) else if p2 = (2 : Int32) then (f_X9_soldOf S σ p1) else (-2 : Int32)))
set_option maxRecDepth 100000 in
set_option maxHeartbeats 1000000 in
theorem ok_X9_left {g : GC} {B : hH} {am : XAd} {S : XSh} {d : Nat} (hE : XOk am S) (hX : GX g) (hd : 2 ≤ d) (σ : XSt) (p1 : Int32) (p2 : Int32) (h0 : XInv S σ) : XC g B am S d yX9_left cX9_left 4 (some FieldType.int) [.ref (am 9 0), .int p1, .int p2] (fun v σ' => v = some (.int (f_X9_left S σ p1 p2)) ∧ σ' = σ) σ := by
  refine AM.of2 (own := RX9) (nm := "left") (L0 := [(0, .ref (am 9 0)), (1, .int p1), (2, .int p2)]) (by decide) rfl rfl (Nat.le_of_ble_eq_true rfl) rfl ?_
  refine r_aload_n dX9_left_0 rfl ?_
  refine r_iload_n dX9_left_1 rfl ?_
  by_cases c1 : (f_X9_wineAt S σ p1) = 0
  · refine x_callW (c := 9) (i := 0) hE (fun _ _ => rfl) (Nat.le_of_ble_eq_true rfl) dX9_left_2 mf_X9_wineAt ml_RX9_121 (ok_X9_wineAt (d := d - 1) hE hX (by omega) _ _ (by with_reducible assumption)) rfl rfl rfl rfl (Nat.le_of_ble_eq_true rfl) (by omega) ?_
    rw [if_pos c1]
    refine r_astore_nN dX9_left_5 (by decide) ?_
    refine r_aload_nN dX9_left_6 rfl ?_
    refine r_ifnonnullN dX9_left_7 ?_
    refine r_bipush (v := (-2 : Int32)) dX9_left_10 (by decide) ?_
    refine r_iret dX9_left_12 rfl rfl ?_
    exact ⟨_, rfl, by rw [f_X9_left, if_pos c1], rfl⟩
  · refine x_callW (c := 9) (i := 0) hE (fun _ _ => rfl) (Nat.le_of_ble_eq_true rfl) dX9_left_2 mf_X9_wineAt ml_RX9_121 (ok_X9_wineAt (d := d - 1) hE hX (by omega) _ _ (by with_reducible assumption)) rfl rfl rfl rfl (Nat.le_of_ble_eq_true rfl) (by omega) ?_
    rw [if_neg c1]
    have lc1 := lv_X9_wineAt h0 c1
    refine r_astore_n dX9_left_5 (by decide) ?_
    refine r_aload_n dX9_left_6 rfl ?_
    refine r_ifnonnull (tgt := 13) dX9_left_7 (by decide) ?_
    refine r_iload_n dX9_left_13 rfl ?_
    by_cases c2 : p2 = (0 : Int32)
    · refine r_tabK (tgt := 40) dX9_left_14 c2 (by decide) (by decide) rfl (by decide) ?_
      refine r_aload_n dX9_left_40 rfl ?_
      refine x_callW (c := 8) (i := (Int32.toNatClampNeg p1)) hE (fun _ _ => rfl) (by with_reducible assumption) dX9_left_41 mf_X8_remaining ml_RX9_216 (ok_X8_remaining (d := d - 1) hE hX (by omega) _ _ (by with_reducible assumption)) rfl rfl rfl rfl (Nat.le_of_ble_eq_true rfl) (by omega) ?_
      refine r_iret dX9_left_44 rfl rfl ?_
      exact ⟨_, rfl, by rw [f_X9_left, if_neg c1, if_pos c2], rfl⟩
    by_cases c3 : p2 = (1 : Int32)
    · refine r_tabK (tgt := 45) dX9_left_14 c3 (by decide) (by decide) rfl (by decide) ?_
      refine r_iconst (v := (0 : Int32)) dX9_left_45 (by decide) ?_
      refine r_aload_n dX9_left_46 rfl ?_
      refine r_iload_n dX9_left_47 rfl ?_
      refine x_callW (c := 9) (i := 0) hE (fun _ _ => rfl) (Nat.le_of_ble_eq_true rfl) dX9_left_48 mf_X9_soldOf ml_RX9_219 (ok_X9_soldOf (d := d - 1) hE hX (by omega) _ _ (by with_reducible assumption)) rfl rfl rfl rfl (Nat.le_of_ble_eq_true rfl) (by omega) ?_
      refine r_aload_n dX9_left_51 rfl ?_
      refine x_callW (c := 8) (i := (Int32.toNatClampNeg p1)) hE (fun _ _ => rfl) (by with_reducible assumption) dX9_left_52 mf_X8_remaining ml_RX9_216 (ok_X8_remaining (d := d - 1) hE hX (by omega) _ _ (by with_reducible assumption)) rfl rfl rfl rfl (Nat.le_of_ble_eq_true rfl) (by omega) ?_
      refine r_isub dX9_left_55 ?_
      refine r_mmax dX9_left_56 ml_RX9_222 (Nat.le_of_ble_eq_true rfl) (by omega) ?_
      refine r_iret dX9_left_59 rfl rfl ?_
      exact ⟨_, rfl, by rw [f_X9_left, if_neg c1, if_neg c2, if_pos c3], rfl⟩
    by_cases c4 : p2 = (2 : Int32)
    · refine r_tabK (tgt := 60) dX9_left_14 c4 (by decide) (by decide) rfl (by decide) ?_
      refine r_aload_n dX9_left_60 rfl ?_
      refine r_iload_n dX9_left_61 rfl ?_
      refine x_callW (c := 9) (i := 0) hE (fun _ _ => rfl) (Nat.le_of_ble_eq_true rfl) dX9_left_62 mf_X9_soldOf ml_RX9_219 (ok_X9_soldOf (d := d - 1) hE hX (by omega) _ _ (by with_reducible assumption)) rfl rfl rfl rfl (Nat.le_of_ble_eq_true rfl) (by omega) ?_
      refine r_iret dX9_left_65 rfl rfl ?_
      exact ⟨_, rfl, by rw [f_X9_left, if_neg c1, if_neg c2, if_neg c3, if_pos c4], rfl⟩
    refine r_tabOut (tgt := 66) dX9_left_14 (by have e0 : (p2).toInt ≠ 0 := ne_toInt c2; have e1 : (p2).toInt ≠ 1 := ne_toInt c3; have e2 : (p2).toInt ≠ 2 := ne_toInt c4; omega) (by decide) ?_
    refine r_bipush (v := (-2 : Int32)) dX9_left_66 (by decide) ?_
    refine r_iret dX9_left_68 rfl rfl ?_
    exact ⟨_, rfl, by rw [f_X9_left, if_neg c1, if_neg c2, if_neg c3, if_neg c4], rfl⟩

def f_X9_odds (S : XSh) (σ : XSt) (p1 : Int32) (p2 : Int32) : Int64 × XSt := (if (f_X9_bottleAt S σ p1) = 0 then ((-4611686018427387904 : Int64), σ) else (if (f_X9_isBelow p2 (2 : Int32)) = 0 then ((-4611686018427387904 : Int64), σ) else (if (f_X9_isBarred S σ (Int32.toNatClampNeg p1)) = 0 then (if (f_X9_isOfKind ((f_X9_judged S σ (Int32.toNatClampNeg p1) (0 : Int32)).2.1 1 (Int32.toNatClampNeg p1) 0) (1 : Int32)) = 0 then (if (f_X9_commonDivisor ((f_X9_weightOf (1 : Int32)) * ((100 : Int32) - (f_X9_judged S σ (Int32.toNatClampNeg p1) (0 : Int32)).1)) (((f_X9_weightOf (1 : Int32)) * ((100 : Int32) - (f_X9_judged S σ (Int32.toNatClampNeg p1) (0 : Int32)).1)) + ((f_X9_weightOf ((f_X9_judged S σ (Int32.toNatClampNeg p1) (0 : Int32)).2.1 1 (Int32.toNatClampNeg p1) 0)) * ((f_X9_judged S σ (Int32.toNatClampNeg p1) (0 : Int32)).1 + (1 : Int32))))) = 0 then ((Int32.toInt64 p2), (f_X9_judged S σ (Int32.toNatClampNeg p1) (0 : Int32)).2) else (if p2 = 0 then ((Int32.toInt64 (((f_X9_weightOf (1 : Int32)) * ((100 : Int32) - (f_X9_judged S σ (Int32.toNatClampNeg p1) (0 : Int32)).1)) / (f_X9_commonDivisor ((f_X9_weightOf (1 : Int32)) * ((100 : Int32) - (f_X9_judged S σ (Int32.toNatClampNeg p1) (0 : Int32)).1)) (((f_X9_weightOf (1 : Int32)) * ((100 : Int32) - (f_X9_judged S σ (Int32.toNatClampNeg p1) (0 : Int32)).1)) + ((f_X9_weightOf ((f_X9_judged S σ (Int32.toNatClampNeg p1) (0 : Int32)).2.1 1 (Int32.toNatClampNeg p1) 0)) * ((f_X9_judged S σ (Int32.toNatClampNeg p1) (0 : Int32)).1 + (1 : Int32))))))), (f_X9_judged S σ (Int32.toNatClampNeg p1) (0 : Int32)).2) else ((Int32.toInt64 ((((f_X9_weightOf (1 : Int32)) * ((100 : Int32) - (f_X9_judged S σ (Int32.toNatClampNeg p1) (0 : Int32)).1)) + ((f_X9_weightOf ((f_X9_judged S σ (Int32.toNatClampNeg p1) (0 : Int32)).2.1 1 (Int32.toNatClampNeg p1) 0)) * ((f_X9_judged S σ (Int32.toNatClampNeg p1) (0 : Int32)).1 + (1 : Int32)))) / (f_X9_commonDivisor ((f_X9_weightOf (1 : Int32)) * ((100 : Int32) - (f_X9_judged S σ (Int32.toNatClampNeg p1) (0 : Int32)).1)) (((f_X9_weightOf (1 : Int32)) * ((100 : Int32) - (f_X9_judged S σ (Int32.toNatClampNeg p1) (0 : Int32)).1)) + ((f_X9_weightOf ((f_X9_judged S σ (Int32.toNatClampNeg p1) (0 : Int32)).2.1 1 (Int32.toNatClampNeg p1) 0)) * ((f_X9_judged S σ (Int32.toNatClampNeg p1) (0 : Int32)).1 + (1 : Int32))))))), (f_X9_judged S σ (Int32.toNatClampNeg p1) (0 : Int32)).2))) else (if (f_X9_commonDivisor ((f_X9_weightOf (1 : Int32)) * ((100 : Int32) - (f_X9_judged S σ (Int32.toNatClampNeg p1) (0 : Int32)).1)) (((f_X9_weightOf (1 : Int32)) * ((100 : Int32) - (f_X9_judged S σ (Int32.toNatClampNeg p1) (0 : Int32)).1)) + ((f_X9_weightOf (5 : Int32)) * ((f_X9_judged S σ (Int32.toNatClampNeg p1) (0 : Int32)).1 + (1 : Int32))))) = 0 then ((Int32.toInt64 p2), (f_X9_judged S σ (Int32.toNatClampNeg p1) (0 : Int32)).2) else (if p2 = 0 then ((Int32.toInt64 (((f_X9_weightOf (1 : Int32)) * ((100 : Int32) - (f_X9_judged S σ (Int32.toNatClampNeg p1) (0 : Int32)).1)) / (f_X9_commonDivisor ((f_X9_weightOf (1 : Int32)) * ((100 : Int32) - (f_X9_judged S σ (Int32.toNatClampNeg p1) (0 : Int32)).1)) (((f_X9_weightOf (1 : Int32)) * ((100 : Int32) - (f_X9_judged S σ (Int32.toNatClampNeg p1) (0 : Int32)).1)) + ((f_X9_weightOf (5 : Int32)) * ((f_X9_judged S σ (Int32.toNatClampNeg p1) (0 : Int32)).1 + (1 : Int32))))))), (f_X9_judged S σ (Int32.toNatClampNeg p1) (0 : Int32)).2) else ((Int32.toInt64 ((((f_X9_weightOf (1 : Int32)) * ((100 : Int32) - (f_X9_judged S σ (Int32.toNatClampNeg p1) (0 : Int32)).1)) + ((f_X9_weightOf (5 : Int32)) * ((f_X9_judged S σ (Int32.toNatClampNeg p1) (0 : Int32)).1 + (1 : Int32)))) / (f_X9_commonDivisor ((f_X9_weightOf (1 : Int32)) * ((100 : Int32) - (f_X9_judged S σ (Int32.toNatClampNeg p1) (0 : Int32)).1)) (((f_X9_weightOf (1 : Int32)) * ((100 : Int32) - (f_X9_judged S σ (Int32.toNatClampNeg p1) (0 : Int32)).1)) + ((f_X9_weightOf (5 : Int32)) * ((f_X9_judged S σ (Int32.toNatClampNeg p1) (0 : Int32)).1 + (1 : Int32))))))), (f_X9_judged S σ (Int32.toNatClampNeg p1) (0 : Int32)).2)))) else ((Int32.toInt64 p2), σ))))
set_option maxRecDepth 100000 in
set_option maxHeartbeats 1000000 in
theorem ok_X9_odds {g : GC} {B : hH} {am : XAd} {S : XSh} {d : Nat} (hE : XOk am S) (hX : GX g) (hd : 5 ≤ d) (σ : XSt) (p1 : Int32) (p2 : Int32) (h0 : XInv S σ) : XC g B am S d yX9_odds cX9_odds 8 (some FieldType.long) [.ref (am 9 0), .int p1, .int p2] (fun v σ' => v = some (.long (f_X9_odds S σ p1 p2).1) ∧ σ' = (f_X9_odds S σ p1 p2).2) σ := by
  refine AM.of2 (own := RX9) (nm := "odds") (L0 := [(0, .ref (am 9 0)), (1, .int p1), (2, .int p2)]) (by decide) rfl rfl (Nat.le_of_ble_eq_true rfl) rfl ?_
  refine r_aload_n dX9_odds_0 rfl ?_
  refine r_iload_n dX9_odds_1 rfl ?_
  by_cases c1 : (f_X9_bottleAt S σ p1) = 0
  · refine x_callW (c := 9) (i := 0) hE (fun _ _ => rfl) (Nat.le_of_ble_eq_true rfl) dX9_odds_2 mf_X9_bottleAt ml_RX9_148 (ok_X9_bottleAt (d := d - 1) hE hX (by omega) _ _ (by with_reducible assumption)) rfl rfl rfl rfl (Nat.le_of_ble_eq_true rfl) (by omega) ?_
    rw [if_pos c1]
    refine r_astore_nN dX9_odds_5 (by decide) ?_
    refine r_aload_nN dX9_odds_6 rfl ?_
    refine r_ifnullN (tgt := 18) dX9_odds_7 (by decide) ?_
    refine r_ldc2 dX9_odds_18 kc_RX9_227 ?_
    refine r_lret dX9_odds_21 rfl ?_
    exact ⟨_, rfl, by rw [f_X9_odds, if_pos c1], by rw [f_X9_odds, if_pos c1]⟩
  · refine x_callW (c := 9) (i := 0) hE (fun _ _ => rfl) (Nat.le_of_ble_eq_true rfl) dX9_odds_2 mf_X9_bottleAt ml_RX9_148 (ok_X9_bottleAt (d := d - 1) hE hX (by omega) _ _ (by with_reducible assumption)) rfl rfl rfl rfl (Nat.le_of_ble_eq_true rfl) (by omega) ?_
    rw [if_neg c1]
    have lc1 := lv_X9_bottleAt h0 c1
    refine r_astore_n dX9_odds_5 (by decide) ?_
    refine r_aload_n dX9_odds_6 rfl ?_
    refine r_ifnull dX9_odds_7 ?_
    refine r_iload_n dX9_odds_10 rfl ?_
    refine r_iconst (v := (2 : Int32)) dX9_odds_11 (by decide) ?_
    refine r_callS0 dX9_odds_12 mf_X9_isBelow ml_RX9_136 (ok_X9_isBelow (d := d - 1) (by omega) _ _) rfl rfl (Nat.le_of_ble_eq_true rfl) (by omega) ?_
    refine r_if_ne (tgt := 22) dX9_odds_15 (by decide) (fun c2 => ?_) (fun c2 => ?_)
    · refine r_aload_n dX9_odds_22 rfl ?_
      refine r_aload_n dX9_odds_23 rfl ?_
      refine x_callW (c := 9) (i := 0) hE (fun _ _ => rfl) (Nat.le_of_ble_eq_true rfl) dX9_odds_24 mf_X9_isBarred ml_RX9_169 (ok_X9_isBarred (d := d - 1) hE hX (by omega) _ _ (by with_reducible assumption) (by with_reducible assumption)) rfl rfl rfl rfl (Nat.le_of_ble_eq_true rfl) (by omega) ?_
      refine r_if_eq (tgt := 33) dX9_odds_27 (by decide) (fun c3 => ?_) (fun c3 => ?_)
      · refine r_aload_n dX9_odds_33 rfl ?_
        refine r_aload_n dX9_odds_34 rfl ?_
        refine r_iconst (v := (0 : Int32)) dX9_odds_35 (by decide) ?_
        refine x_callW (c := 9) (i := 0) hE (fun _ _ => rfl) (Nat.le_of_ble_eq_true rfl) dX9_odds_36 mf_X9_judged ml_RX9_183 (ok_X9_judged (d := d - 1) hE hX (by omega) _ _ _ (by with_reducible assumption) (by with_reducible assumption)) rfl rfl rfl rfl (Nat.le_of_ble_eq_true rfl) (by omega) ?_
        refine r_istore dX9_odds_39 (by decide) ?_
        refine r_iconst (v := (1 : Int32)) dX9_odds_41 (by decide) ?_
        refine r_callS0 dX9_odds_42 mf_X9_weightOf ml_RX9_176 (ok_X9_weightOf (d := d - 1) hX (by omega) _) rfl rfl (Nat.le_of_ble_eq_true rfl) (by omega) ?_
        refine r_bipush (v := (100 : Int32)) dX9_odds_45 (by decide) ?_
        refine r_iload dX9_odds_47 rfl ?_
        refine r_isub dX9_odds_49 ?_
        refine r_imul dX9_odds_50 ?_
        refine r_istore dX9_odds_51 (by decide) ?_
        refine r_aload_n dX9_odds_53 rfl ?_
        refine x_getI (c := 1) (x := ((f_X9_judged S σ (Int32.toNatClampNeg p1) (0 : Int32)).2.1 1 (Int32.toNatClampNeg p1) 0)) hE (fun _ _ => rfl) (fun _ => rfl) dX9_odds_54 fl_RX9_152 (by with_reducible assumption) rfl ?_
        refine r_iconst (v := (1 : Int32)) dX9_odds_57 (by decide) ?_
        refine r_callS0 dX9_odds_58 mf_X9_isOfKind ml_RX9_229 (ok_X9_isOfKind (d := d - 1) hX (by omega) _ _) rfl rfl (Nat.le_of_ble_eq_true rfl) (by omega) ?_
        refine r_if_eq (tgt := 68) dX9_odds_61 (by decide) (fun c4 => ?_) (fun c4 => ?_)
        · refine r_aload_n dX9_odds_68 rfl ?_
          refine x_getI (c := 1) (x := ((f_X9_judged S σ (Int32.toNatClampNeg p1) (0 : Int32)).2.1 1 (Int32.toNatClampNeg p1) 0)) hE (fun _ _ => rfl) (fun _ => rfl) dX9_odds_69 fl_RX9_152 (by with_reducible assumption) rfl ?_
          refine r_callS0 dX9_odds_72 mf_X9_weightOf ml_RX9_176 (ok_X9_weightOf (d := d - 1) hX (by omega) _) rfl rfl (Nat.le_of_ble_eq_true rfl) (by omega) ?_
          refine r_iload dX9_odds_75 rfl ?_
          refine r_iconst (v := (1 : Int32)) dX9_odds_77 (by decide) ?_
          refine r_iadd dX9_odds_78 ?_
          refine r_imul dX9_odds_79 ?_
          refine r_istore dX9_odds_80 (by decide) ?_
          refine r_iload dX9_odds_82 rfl ?_
          refine r_iload dX9_odds_84 rfl ?_
          refine r_iload dX9_odds_86 rfl ?_
          refine r_iadd dX9_odds_88 ?_
          refine r_callS0 dX9_odds_89 mf_X9_commonDivisor ml_RX9_232 (ok_X9_commonDivisor (d := d - 1) (by omega) _ _) rfl rfl (Nat.le_of_ble_eq_true rfl) (by omega) ?_
          refine r_istore dX9_odds_92 (by decide) ?_
          refine r_iload dX9_odds_94 rfl ?_
          refine r_if_ne (tgt := 102) dX9_odds_96 (by decide) (fun c5 => ?_) (fun c5 => ?_)
          · refine r_iload_n dX9_odds_102 rfl ?_
            refine r_if_ne (tgt := 111) dX9_odds_103 (by decide) (fun c6 => ?_) (fun c6 => ?_)
            · refine r_iload dX9_odds_111 rfl ?_
              refine r_iload dX9_odds_113 rfl ?_
              refine r_iadd dX9_odds_115 ?_
              refine r_iload dX9_odds_116 rfl ?_
              refine r_idiv dX9_odds_118 (by with_reducible assumption) ?_
              refine r_i2l dX9_odds_119 ?_
              refine r_lret dX9_odds_120 rfl ?_
              exact ⟨_, rfl, by rw [f_X9_odds, if_neg c1, if_neg c2, if_pos c3, if_pos c4, if_neg c5, if_neg c6], by rw [f_X9_odds, if_neg c1, if_neg c2, if_pos c3, if_pos c4, if_neg c5, if_neg c6]⟩
            · refine r_iload dX9_odds_106 rfl ?_
              refine r_goto (tgt := 116) dX9_odds_108 (by decide) ?_
              refine r_iload dX9_odds_116 rfl ?_
              refine r_idiv dX9_odds_118 (by with_reducible assumption) ?_
              refine r_i2l dX9_odds_119 ?_
              refine r_lret dX9_odds_120 rfl ?_
              exact ⟨_, rfl, by rw [f_X9_odds, if_neg c1, if_neg c2, if_pos c3, if_pos c4, if_neg c5, if_pos c6], by rw [f_X9_odds, if_neg c1, if_neg c2, if_pos c3, if_pos c4, if_neg c5, if_pos c6]⟩
          · refine r_iload_n dX9_odds_99 rfl ?_
            refine r_i2l dX9_odds_100 ?_
            refine r_lret dX9_odds_101 rfl ?_
            exact ⟨_, rfl, by rw [f_X9_odds, if_neg c1, if_neg c2, if_pos c3, if_pos c4, if_pos c5], by rw [f_X9_odds, if_neg c1, if_neg c2, if_pos c3, if_pos c4, if_pos c5]⟩
        · refine r_iconst (v := (5 : Int32)) dX9_odds_64 (by decide) ?_
          refine r_goto (tgt := 72) dX9_odds_65 (by decide) ?_
          refine r_callS0 dX9_odds_72 mf_X9_weightOf ml_RX9_176 (ok_X9_weightOf (d := d - 1) hX (by omega) _) rfl rfl (Nat.le_of_ble_eq_true rfl) (by omega) ?_
          refine r_iload dX9_odds_75 rfl ?_
          refine r_iconst (v := (1 : Int32)) dX9_odds_77 (by decide) ?_
          refine r_iadd dX9_odds_78 ?_
          refine r_imul dX9_odds_79 ?_
          refine r_istore dX9_odds_80 (by decide) ?_
          refine r_iload dX9_odds_82 rfl ?_
          refine r_iload dX9_odds_84 rfl ?_
          refine r_iload dX9_odds_86 rfl ?_
          refine r_iadd dX9_odds_88 ?_
          refine r_callS0 dX9_odds_89 mf_X9_commonDivisor ml_RX9_232 (ok_X9_commonDivisor (d := d - 1) (by omega) _ _) rfl rfl (Nat.le_of_ble_eq_true rfl) (by omega) ?_
          refine r_istore dX9_odds_92 (by decide) ?_
          refine r_iload dX9_odds_94 rfl ?_
          refine r_if_ne (tgt := 102) dX9_odds_96 (by decide) (fun c7 => ?_) (fun c7 => ?_)
          · refine r_iload_n dX9_odds_102 rfl ?_
            refine r_if_ne (tgt := 111) dX9_odds_103 (by decide) (fun c8 => ?_) (fun c8 => ?_)
            · refine r_iload dX9_odds_111 rfl ?_
              refine r_iload dX9_odds_113 rfl ?_
              refine r_iadd dX9_odds_115 ?_
              refine r_iload dX9_odds_116 rfl ?_
              refine r_idiv dX9_odds_118 (by with_reducible assumption) ?_
              refine r_i2l dX9_odds_119 ?_
              refine r_lret dX9_odds_120 rfl ?_
              exact ⟨_, rfl, by rw [f_X9_odds, if_neg c1, if_neg c2, if_pos c3, if_neg c4, if_neg c7, if_neg c8], by rw [f_X9_odds, if_neg c1, if_neg c2, if_pos c3, if_neg c4, if_neg c7, if_neg c8]⟩
            · refine r_iload dX9_odds_106 rfl ?_
              refine r_goto (tgt := 116) dX9_odds_108 (by decide) ?_
              refine r_iload dX9_odds_116 rfl ?_
              refine r_idiv dX9_odds_118 (by with_reducible assumption) ?_
              refine r_i2l dX9_odds_119 ?_
              refine r_lret dX9_odds_120 rfl ?_
              exact ⟨_, rfl, by rw [f_X9_odds, if_neg c1, if_neg c2, if_pos c3, if_neg c4, if_neg c7, if_pos c8], by rw [f_X9_odds, if_neg c1, if_neg c2, if_pos c3, if_neg c4, if_neg c7, if_pos c8]⟩
          · refine r_iload_n dX9_odds_99 rfl ?_
            refine r_i2l dX9_odds_100 ?_
            refine r_lret dX9_odds_101 rfl ?_
            exact ⟨_, rfl, by rw [f_X9_odds, if_neg c1, if_neg c2, if_pos c3, if_neg c4, if_pos c7], by rw [f_X9_odds, if_neg c1, if_neg c2, if_pos c3, if_neg c4, if_pos c7]⟩
      · refine r_iload_n dX9_odds_30 rfl ?_
        refine r_i2l dX9_odds_31 ?_
        refine r_lret dX9_odds_32 rfl ?_
        exact ⟨_, rfl, by rw [f_X9_odds, if_neg c1, if_neg c2, if_neg c3], by rw [f_X9_odds, if_neg c1, if_neg c2, if_neg c3]⟩
    · refine r_ldc2 dX9_odds_18 kc_RX9_227 ?_
      refine r_lret dX9_odds_21 rfl ?_
      exact ⟨_, rfl, by rw [f_X9_odds, if_neg c1, if_pos c2], by rw [f_X9_odds, if_neg c1, if_pos c2]⟩

def f_X9_source (S : XSh) (σ : XSt) (p1 : Int32) (p2 : Int32) : Int32 := (if (f_X9_isUpTo p1 (9 : Int32)) = 0 then (-2 : Int32) else (if (f_X9_isBelow p2 (2 : Int32)) = 0 then (-2 : Int32) else (if p2 = (1 : Int32) then (f_X9_soldBy S σ p1 (1 : Int32)) else (f_X9_soldBy S σ p1 (0 : Int32)))))
set_option maxRecDepth 100000 in
set_option maxHeartbeats 1000000 in
theorem ok_X9_source {g : GC} {B : hH} {am : XAd} {S : XSh} {d : Nat} (hE : XOk am S) (hX : GX g) (hd : 5 ≤ d) (σ : XSt) (p1 : Int32) (p2 : Int32) (h0 : XInv S σ) : XC g B am S d yX9_source cX9_source 3 (some FieldType.int) [.ref (am 9 0), .int p1, .int p2] (fun v σ' => v = some (.int (f_X9_source S σ p1 p2)) ∧ σ' = σ) σ := by
  refine AM.of2 (own := RX9) (nm := "source") (L0 := [(0, .ref (am 9 0)), (1, .int p1), (2, .int p2)]) (by decide) rfl rfl (Nat.le_of_ble_eq_true rfl) rfl ?_
  refine r_iload_n dX9_source_0 rfl ?_
  refine r_bipush (v := (9 : Int32)) dX9_source_1 (by decide) ?_
  refine r_callS0 dX9_source_3 mf_X9_isUpTo ml_RX9_106 (ok_X9_isUpTo (d := d - 1) (by omega) _ _) rfl rfl (Nat.le_of_ble_eq_true rfl) (by omega) ?_
  refine r_if_eq (tgt := 17) dX9_source_6 (by decide) (fun c1 => ?_) (fun c1 => ?_)
  · refine r_bipush (v := (-2 : Int32)) dX9_source_17 (by decide) ?_
    refine r_iret dX9_source_19 rfl rfl ?_
    exact ⟨_, rfl, by rw [f_X9_source, if_pos c1], rfl⟩
  · refine r_iload_n dX9_source_9 rfl ?_
    refine r_iconst (v := (2 : Int32)) dX9_source_10 (by decide) ?_
    refine r_callS0 dX9_source_11 mf_X9_isBelow ml_RX9_136 (ok_X9_isBelow (d := d - 1) (by omega) _ _) rfl rfl (Nat.le_of_ble_eq_true rfl) (by omega) ?_
    refine r_if_ne (tgt := 20) dX9_source_14 (by decide) (fun c2 => ?_) (fun c2 => ?_)
    · refine r_aload_n dX9_source_20 rfl ?_
      refine r_iload_n dX9_source_21 rfl ?_
      refine r_iload_n dX9_source_22 rfl ?_
      refine r_iconst (v := (1 : Int32)) dX9_source_23 (by decide) ?_
      refine r_icmp_ne (tgt := 31) dX9_source_24 (by decide) (fun c3 => ?_) (fun c3 => ?_)
      · refine r_iconst (v := (0 : Int32)) dX9_source_31 (by decide) ?_
        refine x_callW (c := 9) (i := 0) hE (fun _ _ => rfl) (Nat.le_of_ble_eq_true rfl) dX9_source_32 mf_X9_soldBy ml_RX9_235 (ok_X9_soldBy (d := d - 1) hE hX (by omega) _ _ _ (by with_reducible assumption)) rfl rfl rfl rfl (Nat.le_of_ble_eq_true rfl) (by omega) ?_
        refine r_iret dX9_source_35 rfl rfl ?_
        exact ⟨_, rfl, by rw [f_X9_source, if_neg c1, if_neg c2, if_neg c3], rfl⟩
      · refine r_iconst (v := (1 : Int32)) dX9_source_27 (by decide) ?_
        refine r_goto (tgt := 32) dX9_source_28 (by decide) ?_
        refine x_callW (c := 9) (i := 0) hE (fun _ _ => rfl) (Nat.le_of_ble_eq_true rfl) dX9_source_32 mf_X9_soldBy ml_RX9_235 (ok_X9_soldBy (d := d - 1) hE hX (by omega) _ _ _ (by with_reducible assumption)) rfl rfl rfl rfl (Nat.le_of_ble_eq_true rfl) (by omega) ?_
        refine r_iret dX9_source_35 rfl rfl ?_
        exact ⟨_, rfl, by rw [f_X9_source, if_neg c1, if_neg c2, if_pos c3], rfl⟩
    · refine r_bipush (v := (-2 : Int32)) dX9_source_17 (by decide) ?_
      refine r_iret dX9_source_19 rfl rfl ?_
      exact ⟨_, rfl, by rw [f_X9_source, if_neg c1, if_pos c2], rfl⟩

def f_X9_worst_L9 : Nat → XSh → XSt → Int32 → Int32 → Int32 → Int32 → Int32
  | 0, _, _, _, _, _, _ => 0
  | n + 1, S, σ, l1, l2, l3, l4 => (if (9 : Int32) < l4 then l1 else (if (f_X9_soldBy S σ l4 (0 : Int32)) ≤ 0 then (f_X9_worst_L9 n S σ l1 l2 l3 (l4 + (1 : Int32))) else (if l1 = (-1 : Int32) then (f_X9_worst_L9 n S σ l4 (f_X9_soldBy S σ l4 (0 : Int32)) (f_X9_soldBy S σ l4 (1 : Int32)) (l4 + (1 : Int32))) else (if 0 < (((f_X9_soldBy S σ l4 (1 : Int32)) * l2) - (l3 * (f_X9_soldBy S σ l4 (0 : Int32)))) then (f_X9_worst_L9 n S σ l4 (f_X9_soldBy S σ l4 (0 : Int32)) (f_X9_soldBy S σ l4 (1 : Int32)) (l4 + (1 : Int32))) else (if (((f_X9_soldBy S σ l4 (1 : Int32)) * l2) - (l3 * (f_X9_soldBy S σ l4 (0 : Int32)))) = 0 then (if (f_X9_soldBy S σ l4 (0 : Int32)) ≤ l2 then (f_X9_worst_L9 n S σ l1 l2 l3 (l4 + (1 : Int32))) else (f_X9_worst_L9 n S σ l4 (f_X9_soldBy S σ l4 (0 : Int32)) (f_X9_soldBy S σ l4 (1 : Int32)) (l4 + (1 : Int32)))) else (f_X9_worst_L9 n S σ l1 l2 l3 (l4 + (1 : Int32))))))))
set_option maxRecDepth 100000 in
set_option maxHeartbeats 1000000 in
theorem lp_X9_worst_9 {g : GC} {B : hH} {am : XAd} {S : XSh} {d : Nat} {K : Option Value → XSt → Prop} (hE : XOk am S) (hX : GX g) (hd : 5 ≤ d) : ∀ (fuel : Nat) (σ : XSt) (l1 : Int32) (l2 : Int32) (l3 : Int32) (l4 : Int32), XInv S σ → Ct l4 10 → 11 - l4.toNatClampNeg < fuel → K (some (.int (f_X9_worst_L9 fuel S σ l1 l2 l3 l4))) σ → XW g B am S RX9 cX9_worst 8 (some FieldType.int) "worst" d K 9 [(0, .ref (am 9 0)), (1, .int l1), (2, .int l2), (3, .int l3), (4, .int l4)] [] σ := by
  intro fuel
  induction fuel with
  | zero => intro σ l1 l2 l3 l4 i0 i1 hm hK; exact absurd hm (Nat.not_lt_zero _)
  | succ n ih =>
    intro σ l1 l2 l3 l4 i0 i1 hm hK
    refine r_iload dX9_worst_9 rfl ?_
    refine r_bipush (v := (9 : Int32)) dX9_worst_11 (by decide) ?_
    refine r_icmp_gt (tgt := 86) dX9_worst_13 (by decide) (fun c1 => ?_) (fun c1 => ?_)
    · refine r_iload_n dX9_worst_86 rfl ?_
      refine r_iret dX9_worst_87 rfl rfl ?_
      exact ⟨_, rfl, by rw [f_X9_worst_L9, if_pos c1] at hK; exact hK⟩
    · refine r_aload_n dX9_worst_16 rfl ?_
      refine r_iload dX9_worst_17 rfl ?_
      refine r_iconst (v := (0 : Int32)) dX9_worst_19 (by decide) ?_
      refine x_callW (c := 9) (i := 0) hE (fun _ _ => rfl) (Nat.le_of_ble_eq_true rfl) dX9_worst_20 mf_X9_soldBy ml_RX9_235 (ok_X9_soldBy (d := d - 1) hE hX (by omega) _ _ _ (by with_reducible assumption)) rfl rfl rfl rfl (Nat.le_of_ble_eq_true rfl) (by omega) ?_
      refine r_istore dX9_worst_23 (by decide) ?_
      refine r_aload_n dX9_worst_25 rfl ?_
      refine r_iload dX9_worst_26 rfl ?_
      refine r_iconst (v := (1 : Int32)) dX9_worst_28 (by decide) ?_
      refine x_callW (c := 9) (i := 0) hE (fun _ _ => rfl) (Nat.le_of_ble_eq_true rfl) dX9_worst_29 mf_X9_soldBy ml_RX9_235 (ok_X9_soldBy (d := d - 1) hE hX (by omega) _ _ _ (by with_reducible assumption)) rfl rfl rfl rfl (Nat.le_of_ble_eq_true rfl) (by omega) ?_
      refine r_istore dX9_worst_32 (by decide) ?_
      refine r_iload dX9_worst_34 rfl ?_
      refine r_iload_n dX9_worst_36 rfl ?_
      refine r_imul dX9_worst_37 ?_
      refine r_iload_n dX9_worst_38 rfl ?_
      refine r_iload dX9_worst_39 rfl ?_
      refine r_imul dX9_worst_41 ?_
      refine r_isub dX9_worst_42 ?_
      refine r_istore dX9_worst_43 (by decide) ?_
      refine r_iload dX9_worst_45 rfl ?_
      refine r_if_le (tgt := 80) dX9_worst_47 (by decide) (fun c2 => ?_) (fun c2 => ?_)
      · refine r_iinc2 (w := (1 : Int32)) dX9_worst_80 rfl (by decide) (by decide) ?_
        refine r_goto (tgt := 9) dX9_worst_83 (by decide) ?_
        refine r_loc (L' := [(0, .ref (am 9 0)), (1, .int l1), (2, .int l2), (3, .int l3), (4, .int (l4 + (1 : Int32)))]) [4, 5, 6, 7, 0] rfl ?_
        exact ih σ  l1 l2 l3 (l4 + (1 : Int32)) (by exact i0) (by exact (Ct.upL (B := 9) (by decide) (b := 9) rfl rfl i1 (by with_reducible assumption)).2.1) (by have u := (Ct.upL (B := 9) (by decide) (b := 9) rfl rfl i1 (by with_reducible assumption)).2.2; omega) (by rw [f_X9_worst_L9, if_neg c1, if_pos c2] at hK; exact hK)
      · refine r_iload_n dX9_worst_50 rfl ?_
        refine r_iconst (v := (-1 : Int32)) dX9_worst_51 (by decide) ?_
        refine r_icmp_eq (tgt := 71) dX9_worst_52 (by decide) (fun c3 => ?_) (fun c3 => ?_)
        · refine r_iload dX9_worst_71 rfl ?_
          refine r_istore_n dX9_worst_73 (by decide) ?_
          refine r_iload dX9_worst_74 rfl ?_
          refine r_istore_n dX9_worst_76 (by decide) ?_
          refine r_iload dX9_worst_77 rfl ?_
          refine r_istore_n dX9_worst_79 (by decide) ?_
          refine r_iinc2 (w := (1 : Int32)) dX9_worst_80 rfl (by decide) (by decide) ?_
          refine r_goto (tgt := 9) dX9_worst_83 (by decide) ?_
          refine r_loc (L' := [(0, .ref (am 9 0)), (1, .int l4), (2, .int (f_X9_soldBy S σ l4 (0 : Int32))), (3, .int (f_X9_soldBy S σ l4 (1 : Int32))), (4, .int (l4 + (1 : Int32)))]) [7, 3, 2, 1, 0] rfl ?_
          exact ih σ  l4 (f_X9_soldBy S σ l4 (0 : Int32)) (f_X9_soldBy S σ l4 (1 : Int32)) (l4 + (1 : Int32)) (by exact i0) (by exact (Ct.upL (B := 9) (by decide) (b := 9) rfl rfl i1 (by with_reducible assumption)).2.1) (by have u := (Ct.upL (B := 9) (by decide) (b := 9) rfl rfl i1 (by with_reducible assumption)).2.2; omega) (by rw [f_X9_worst_L9, if_neg c1, if_neg c2, if_pos c3] at hK; exact hK)
        · refine r_iload dX9_worst_55 rfl ?_
          refine r_if_gt (tgt := 71) dX9_worst_57 (by decide) (fun c4 => ?_) (fun c4 => ?_)
          · refine r_iload dX9_worst_71 rfl ?_
            refine r_istore_n dX9_worst_73 (by decide) ?_
            refine r_iload dX9_worst_74 rfl ?_
            refine r_istore_n dX9_worst_76 (by decide) ?_
            refine r_iload dX9_worst_77 rfl ?_
            refine r_istore_n dX9_worst_79 (by decide) ?_
            refine r_iinc2 (w := (1 : Int32)) dX9_worst_80 rfl (by decide) (by decide) ?_
            refine r_goto (tgt := 9) dX9_worst_83 (by decide) ?_
            refine r_loc (L' := [(0, .ref (am 9 0)), (1, .int l4), (2, .int (f_X9_soldBy S σ l4 (0 : Int32))), (3, .int (f_X9_soldBy S σ l4 (1 : Int32))), (4, .int (l4 + (1 : Int32)))]) [7, 3, 2, 1, 0] rfl ?_
            exact ih σ  l4 (f_X9_soldBy S σ l4 (0 : Int32)) (f_X9_soldBy S σ l4 (1 : Int32)) (l4 + (1 : Int32)) (by exact i0) (by exact (Ct.upL (B := 9) (by decide) (b := 9) rfl rfl i1 (by with_reducible assumption)).2.1) (by have u := (Ct.upL (B := 9) (by decide) (b := 9) rfl rfl i1 (by with_reducible assumption)).2.2; omega) (by rw [f_X9_worst_L9, if_neg c1, if_neg c2, if_neg c3, if_pos c4] at hK; exact hK)
          · refine r_iload dX9_worst_60 rfl ?_
            refine r_if_ne (tgt := 80) dX9_worst_62 (by decide) (fun c5 => ?_) (fun c5 => ?_)
            · refine r_iinc2 (w := (1 : Int32)) dX9_worst_80 rfl (by decide) (by decide) ?_
              refine r_goto (tgt := 9) dX9_worst_83 (by decide) ?_
              refine r_loc (L' := [(0, .ref (am 9 0)), (1, .int l1), (2, .int l2), (3, .int l3), (4, .int (l4 + (1 : Int32)))]) [4, 5, 6, 7, 0] rfl ?_
              exact ih σ  l1 l2 l3 (l4 + (1 : Int32)) (by exact i0) (by exact (Ct.upL (B := 9) (by decide) (b := 9) rfl rfl i1 (by with_reducible assumption)).2.1) (by have u := (Ct.upL (B := 9) (by decide) (b := 9) rfl rfl i1 (by with_reducible assumption)).2.2; omega) (by rw [f_X9_worst_L9, if_neg c1, if_neg c2, if_neg c3, if_neg c4, if_neg c5] at hK; exact hK)
            · refine r_iload dX9_worst_65 rfl ?_
              refine r_iload_n dX9_worst_67 rfl ?_
              refine r_icmp_le (tgt := 80) dX9_worst_68 (by decide) (fun c6 => ?_) (fun c6 => ?_)
              · refine r_iinc2 (w := (1 : Int32)) dX9_worst_80 rfl (by decide) (by decide) ?_
                refine r_goto (tgt := 9) dX9_worst_83 (by decide) ?_
                refine r_loc (L' := [(0, .ref (am 9 0)), (1, .int l1), (2, .int l2), (3, .int l3), (4, .int (l4 + (1 : Int32)))]) [4, 5, 6, 7, 0] rfl ?_
                exact ih σ  l1 l2 l3 (l4 + (1 : Int32)) (by exact i0) (by exact (Ct.upL (B := 9) (by decide) (b := 9) rfl rfl i1 (by with_reducible assumption)).2.1) (by have u := (Ct.upL (B := 9) (by decide) (b := 9) rfl rfl i1 (by with_reducible assumption)).2.2; omega) (by rw [f_X9_worst_L9, if_neg c1, if_neg c2, if_neg c3, if_neg c4, if_pos c5, if_pos c6] at hK; exact hK)
              · refine r_iload dX9_worst_71 rfl ?_
                refine r_istore_n dX9_worst_73 (by decide) ?_
                refine r_iload dX9_worst_74 rfl ?_
                refine r_istore_n dX9_worst_76 (by decide) ?_
                refine r_iload dX9_worst_77 rfl ?_
                refine r_istore_n dX9_worst_79 (by decide) ?_
                refine r_iinc2 (w := (1 : Int32)) dX9_worst_80 rfl (by decide) (by decide) ?_
                refine r_goto (tgt := 9) dX9_worst_83 (by decide) ?_
                refine r_loc (L' := [(0, .ref (am 9 0)), (1, .int l4), (2, .int (f_X9_soldBy S σ l4 (0 : Int32))), (3, .int (f_X9_soldBy S σ l4 (1 : Int32))), (4, .int (l4 + (1 : Int32)))]) [7, 3, 2, 1, 0] rfl ?_
                exact ih σ  l4 (f_X9_soldBy S σ l4 (0 : Int32)) (f_X9_soldBy S σ l4 (1 : Int32)) (l4 + (1 : Int32)) (by exact i0) (by exact (Ct.upL (B := 9) (by decide) (b := 9) rfl rfl i1 (by with_reducible assumption)).2.1) (by have u := (Ct.upL (B := 9) (by decide) (b := 9) rfl rfl i1 (by with_reducible assumption)).2.2; omega) (by rw [f_X9_worst_L9, if_neg c1, if_neg c2, if_neg c3, if_neg c4, if_pos c5, if_neg c6] at hK; exact hK)
def f_X9_worst (S : XSh) (σ : XSt)  : Int32 := (f_X9_worst_L9 (12) S σ (-1 : Int32) (0 : Int32) (0 : Int32) (0 : Int32))
set_option maxRecDepth 100000 in
set_option maxHeartbeats 1000000 in
theorem ok_X9_worst {g : GC} {B : hH} {am : XAd} {S : XSh} {d : Nat} (hE : XOk am S) (hX : GX g) (hd : 5 ≤ d) (σ : XSt)  (h0 : XInv S σ) : XC g B am S d yX9_worst cX9_worst 8 (some FieldType.int) [.ref (am 9 0)] (fun v σ' => v = some (.int (f_X9_worst S σ)) ∧ σ' = σ) σ := by
  refine AM.of2 (own := RX9) (nm := "worst") (L0 := [(0, .ref (am 9 0))]) (by decide) rfl rfl (Nat.le_of_ble_eq_true rfl) rfl ?_
  refine r_iconst (v := (-1 : Int32)) dX9_worst_0 (by decide) ?_
  refine r_istore_n dX9_worst_1 (by decide) ?_
  refine r_iconst (v := (0 : Int32)) dX9_worst_2 (by decide) ?_
  refine r_istore_n dX9_worst_3 (by decide) ?_
  refine r_iconst (v := (0 : Int32)) dX9_worst_4 (by decide) ?_
  refine r_istore_n dX9_worst_5 (by decide) ?_
  refine r_iconst (v := (0 : Int32)) dX9_worst_6 (by decide) ?_
  refine r_istore dX9_worst_7 (by decide) ?_
  refine r_loc (L' := [(0, .ref (am 9 0)), (1, .int (-1 : Int32)), (2, .int (0 : Int32)), (3, .int (0 : Int32)), (4, .int (0 : Int32))]) [4, 3, 2, 1, 0] rfl ?_
  exact lp_X9_worst_9 hE hX (by omega) (12) σ (-1 : Int32) (0 : Int32) (0 : Int32) (0 : Int32) (by exact h0) (by exact Ct.zero _) (by omega) ⟨by rw [f_X9_worst], rfl⟩

def f_X9_mix_L71 : Nat → XSh → XSt → Int32 → Int32 → Int32 → Int32 → Nat → Nat → Nat → Int32 → Int32 → Int32 → Int32
  | 0, _, _, _, _, _, _, _, _, _, _, _, _ => 0
  | n + 1, S, σ, l1, l2, l3, l4, l5, l6, l7, l8, l9, l10 => (if (10 : Int32) < l10 then (if l4 = 0 then l8 else l9) else (if l9 ≤ (f_X9_far S σ l5 l6 l10 l7) then (f_X9_mix_L71 n S σ l1 l2 l3 l4 l5 l6 l7 l8 l9 (l10 + (1 : Int32))) else (f_X9_mix_L71 n S σ l1 l2 l3 l4 l5 l6 l7 l10 (f_X9_far S σ l5 l6 l10 l7) (l10 + (1 : Int32)))))
set_option maxRecDepth 100000 in
set_option maxHeartbeats 1000000 in
theorem lp_X9_mix_71 {g : GC} {B : hH} {am : XAd} {S : XSh} {d : Nat} {K : Option Value → XSt → Prop} (hE : XOk am S) (hX : GX g) (hd : 2 ≤ d) : ∀ (fuel : Nat) (σ : XSt) (l1 : Int32) (l2 : Int32) (l3 : Int32) (l4 : Int32) (l5 : Nat) (l6 : Nat) (l7 : Nat) (l8 : Int32) (l9 : Int32) (l10 : Int32), l5 < lim S 8 → l6 < lim S 8 → l7 < lim S 8 → Ct l10 11 → 12 - l10.toNatClampNeg < fuel → K (some (.int (f_X9_mix_L71 fuel S σ l1 l2 l3 l4 l5 l6 l7 l8 l9 l10))) σ → XW g B am S RX9 cX9_mix 12 (some FieldType.int) "mix" d K 71 [(0, .ref (am 9 0)), (1, .int l1), (2, .int l2), (3, .int l3), (4, .int l4), (5, .ref (am 8 l5)), (6, .ref (am 8 l6)), (7, .ref (am 8 l7)), (8, .int l8), (9, .int l9), (10, .int l10)] [] σ := by
  intro fuel
  induction fuel with
  | zero => intro σ l1 l2 l3 l4 l5 l6 l7 l8 l9 l10 i0 i1 i2 i3 hm hK; exact absurd hm (Nat.not_lt_zero _)
  | succ n ih =>
    intro σ l1 l2 l3 l4 l5 l6 l7 l8 l9 l10 i0 i1 i2 i3 hm hK
    refine r_iload dX9_mix_71 rfl ?_
    refine r_bipush (v := (10 : Int32)) dX9_mix_73 (by decide) ?_
    refine r_icmp_gt (tgt := 112) dX9_mix_75 (by decide) (fun c10 => ?_) (fun c10 => ?_)
    · refine r_iload dX9_mix_112 rfl ?_
      refine r_if_ne (tgt := 122) dX9_mix_114 (by decide) (fun c11 => ?_) (fun c11 => ?_)
      · refine r_iload dX9_mix_122 rfl ?_
        refine r_iret dX9_mix_124 rfl rfl ?_
        exact ⟨_, rfl, by rw [f_X9_mix_L71, if_pos c10, if_neg c11] at hK; exact hK⟩
      · refine r_iload dX9_mix_117 rfl ?_
        refine r_goto (tgt := 124) dX9_mix_119 (by decide) ?_
        refine r_iret dX9_mix_124 rfl rfl ?_
        exact ⟨_, rfl, by rw [f_X9_mix_L71, if_pos c10, if_pos c11] at hK; exact hK⟩
    · refine r_aload dX9_mix_78 rfl ?_
      refine r_aload dX9_mix_80 rfl ?_
      refine r_iload dX9_mix_82 rfl ?_
      refine r_aload dX9_mix_84 rfl ?_
      refine x_callS dX9_mix_86 mf_X9_far ml_RX9_239 (ok_X9_far (d := d - 1) hE hX (by omega) _ _ _ _ _ (by with_reducible assumption) (by with_reducible assumption) (by with_reducible assumption)) rfl rfl (Nat.le_of_ble_eq_true rfl) (by omega) ?_
      refine r_istore dX9_mix_89 (by decide) ?_
      refine r_iload dX9_mix_91 rfl ?_
      refine r_iload dX9_mix_93 rfl ?_
      refine r_icmp_ge (tgt := 106) dX9_mix_95 (by decide) (fun c12 => ?_) (fun c12 => ?_)
      · refine r_iinc2 (w := (1 : Int32)) dX9_mix_106 rfl (by decide) (by decide) ?_
        refine r_goto (tgt := 71) dX9_mix_109 (by decide) ?_
        refine r_loc (L' := [(0, .ref (am 9 0)), (1, .int l1), (2, .int l2), (3, .int l3), (4, .int l4), (5, .ref (am 8 l5)), (6, .ref (am 8 l6)), (7, .ref (am 8 l7)), (8, .int l8), (9, .int l9), (10, .int (l10 + (1 : Int32)))]) [2, 3, 4, 5, 6, 7, 8, 9, 10, 11, 0] rfl ?_
        exact ih σ  l1 l2 l3 l4 l5 l6 l7 l8 l9 (l10 + (1 : Int32)) (by exact i0) (by exact i1) (by exact i2) (by exact (Ct.upL (B := 10) (by decide) (b := 10) rfl rfl i3 (by with_reducible assumption)).2.1) (by have u := (Ct.upL (B := 10) (by decide) (b := 10) rfl rfl i3 (by with_reducible assumption)).2.2; omega) (by rw [f_X9_mix_L71, if_neg c10, if_pos c12] at hK; exact hK)
      · refine r_iload dX9_mix_98 rfl ?_
        refine r_istore dX9_mix_100 (by decide) ?_
        refine r_iload dX9_mix_102 rfl ?_
        refine r_istore dX9_mix_104 (by decide) ?_
        refine r_iinc2 (w := (1 : Int32)) dX9_mix_106 rfl (by decide) (by decide) ?_
        refine r_goto (tgt := 71) dX9_mix_109 (by decide) ?_
        refine r_loc (L' := [(0, .ref (am 9 0)), (1, .int l1), (2, .int l2), (3, .int l3), (4, .int l4), (5, .ref (am 8 l5)), (6, .ref (am 8 l6)), (7, .ref (am 8 l7)), (8, .int l10), (9, .int (f_X9_far S σ l5 l6 l10 l7)), (10, .int (l10 + (1 : Int32)))]) [4, 5, 6, 7, 8, 9, 10, 11, 2, 1, 0] rfl ?_
        exact ih σ  l1 l2 l3 l4 l5 l6 l7 l10 (f_X9_far S σ l5 l6 l10 l7) (l10 + (1 : Int32)) (by exact i0) (by exact i1) (by exact i2) (by exact (Ct.upL (B := 10) (by decide) (b := 10) rfl rfl i3 (by with_reducible assumption)).2.1) (by have u := (Ct.upL (B := 10) (by decide) (b := 10) rfl rfl i3 (by with_reducible assumption)).2.2; omega) (by rw [f_X9_mix_L71, if_neg c10, if_neg c12] at hK; exact hK)
def f_X9_mix (S : XSh) (σ : XSt) (p1 : Int32) (p2 : Int32) (p3 : Int32) (p4 : Int32) : Int32 := (if (f_X9_wineAt S σ p1) = 0 then (if (f_X9_wineAt S σ p2) = 0 then (if (f_X9_wineAt S σ p3) = 0 then (-2 : Int32) else (-2 : Int32)) else (if (f_X9_wineAt S σ p3) = 0 then (-2 : Int32) else (-2 : Int32))) else (if (f_X9_wineAt S σ p2) = 0 then (if (f_X9_wineAt S σ p3) = 0 then (-2 : Int32) else (-2 : Int32)) else (if (f_X9_wineAt S σ p3) = 0 then (-2 : Int32) else (if p1 = p2 then (-2 : Int32) else (if (f_X9_isBelow p4 (2 : Int32)) = 0 then (-2 : Int32) else (f_X9_mix_L71 (13) S σ p1 p2 p3 p4 (Int32.toNatClampNeg p1) (Int32.toNatClampNeg p2) (Int32.toNatClampNeg p3) (0 : Int32) (f_X9_far S σ (Int32.toNatClampNeg p1) (Int32.toNatClampNeg p2) (0 : Int32) (Int32.toNatClampNeg p3)) (1 : Int32)))))))
set_option maxRecDepth 100000 in
set_option maxHeartbeats 1000000 in
theorem ok_X9_mix {g : GC} {B : hH} {am : XAd} {S : XSh} {d : Nat} (hE : XOk am S) (hX : GX g) (hd : 2 ≤ d) (σ : XSt) (p1 : Int32) (p2 : Int32) (p3 : Int32) (p4 : Int32) (h0 : XInv S σ) : XC g B am S d yX9_mix cX9_mix 12 (some FieldType.int) [.ref (am 9 0), .int p1, .int p2, .int p3, .int p4] (fun v σ' => v = some (.int (f_X9_mix S σ p1 p2 p3 p4)) ∧ σ' = σ) σ := by
  refine AM.of2 (own := RX9) (nm := "mix") (L0 := [(0, .ref (am 9 0)), (1, .int p1), (2, .int p2), (3, .int p3), (4, .int p4)]) (by decide) rfl rfl (Nat.le_of_ble_eq_true rfl) rfl ?_
  refine r_aload_n dX9_mix_0 rfl ?_
  refine r_iload_n dX9_mix_1 rfl ?_
  by_cases c1 : (f_X9_wineAt S σ p1) = 0
  · refine x_callW (c := 9) (i := 0) hE (fun _ _ => rfl) (Nat.le_of_ble_eq_true rfl) dX9_mix_2 mf_X9_wineAt ml_RX9_121 (ok_X9_wineAt (d := d - 1) hE hX (by omega) _ _ (by with_reducible assumption)) rfl rfl rfl rfl (Nat.le_of_ble_eq_true rfl) (by omega) ?_
    rw [if_pos c1]
    refine r_astoreN dX9_mix_5 (by decide) ?_
    refine r_aload_n dX9_mix_7 rfl ?_
    refine r_iload_n dX9_mix_8 rfl ?_
    by_cases c2 : (f_X9_wineAt S σ p2) = 0
    · refine x_callW (c := 9) (i := 0) hE (fun _ _ => rfl) (Nat.le_of_ble_eq_true rfl) dX9_mix_9 mf_X9_wineAt ml_RX9_121 (ok_X9_wineAt (d := d - 1) hE hX (by omega) _ _ (by with_reducible assumption)) rfl rfl rfl rfl (Nat.le_of_ble_eq_true rfl) (by omega) ?_
      rw [if_pos c2]
      refine r_astoreN dX9_mix_12 (by decide) ?_
      refine r_aload_n dX9_mix_14 rfl ?_
      refine r_iload_n dX9_mix_15 rfl ?_
      by_cases c3 : (f_X9_wineAt S σ p3) = 0
      · refine x_callW (c := 9) (i := 0) hE (fun _ _ => rfl) (Nat.le_of_ble_eq_true rfl) dX9_mix_16 mf_X9_wineAt ml_RX9_121 (ok_X9_wineAt (d := d - 1) hE hX (by omega) _ _ (by with_reducible assumption)) rfl rfl rfl rfl (Nat.le_of_ble_eq_true rfl) (by omega) ?_
        rw [if_pos c3]
        refine r_astoreN dX9_mix_19 (by decide) ?_
        refine r_aloadN dX9_mix_21 rfl ?_
        refine r_ifnullN (tgt := 50) dX9_mix_23 (by decide) ?_
        refine r_bipush (v := (-2 : Int32)) dX9_mix_50 (by decide) ?_
        refine r_iret dX9_mix_52 rfl rfl ?_
        exact ⟨_, rfl, by rw [f_X9_mix, if_pos c1, if_pos c2, if_pos c3], rfl⟩
      · refine x_callW (c := 9) (i := 0) hE (fun _ _ => rfl) (Nat.le_of_ble_eq_true rfl) dX9_mix_16 mf_X9_wineAt ml_RX9_121 (ok_X9_wineAt (d := d - 1) hE hX (by omega) _ _ (by with_reducible assumption)) rfl rfl rfl rfl (Nat.le_of_ble_eq_true rfl) (by omega) ?_
        rw [if_neg c3]
        have lc3 := lv_X9_wineAt h0 c3
        refine r_astore dX9_mix_19 (by decide) ?_
        refine r_aloadN dX9_mix_21 rfl ?_
        refine r_ifnullN (tgt := 50) dX9_mix_23 (by decide) ?_
        refine r_bipush (v := (-2 : Int32)) dX9_mix_50 (by decide) ?_
        refine r_iret dX9_mix_52 rfl rfl ?_
        exact ⟨_, rfl, by rw [f_X9_mix, if_pos c1, if_pos c2, if_neg c3], rfl⟩
    · refine x_callW (c := 9) (i := 0) hE (fun _ _ => rfl) (Nat.le_of_ble_eq_true rfl) dX9_mix_9 mf_X9_wineAt ml_RX9_121 (ok_X9_wineAt (d := d - 1) hE hX (by omega) _ _ (by with_reducible assumption)) rfl rfl rfl rfl (Nat.le_of_ble_eq_true rfl) (by omega) ?_
      rw [if_neg c2]
      have lc2 := lv_X9_wineAt h0 c2
      refine r_astore dX9_mix_12 (by decide) ?_
      refine r_aload_n dX9_mix_14 rfl ?_
      refine r_iload_n dX9_mix_15 rfl ?_
      by_cases c4 : (f_X9_wineAt S σ p3) = 0
      · refine x_callW (c := 9) (i := 0) hE (fun _ _ => rfl) (Nat.le_of_ble_eq_true rfl) dX9_mix_16 mf_X9_wineAt ml_RX9_121 (ok_X9_wineAt (d := d - 1) hE hX (by omega) _ _ (by with_reducible assumption)) rfl rfl rfl rfl (Nat.le_of_ble_eq_true rfl) (by omega) ?_
        rw [if_pos c4]
        refine r_astoreN dX9_mix_19 (by decide) ?_
        refine r_aloadN dX9_mix_21 rfl ?_
        refine r_ifnullN (tgt := 50) dX9_mix_23 (by decide) ?_
        refine r_bipush (v := (-2 : Int32)) dX9_mix_50 (by decide) ?_
        refine r_iret dX9_mix_52 rfl rfl ?_
        exact ⟨_, rfl, by rw [f_X9_mix, if_pos c1, if_neg c2, if_pos c4], rfl⟩
      · refine x_callW (c := 9) (i := 0) hE (fun _ _ => rfl) (Nat.le_of_ble_eq_true rfl) dX9_mix_16 mf_X9_wineAt ml_RX9_121 (ok_X9_wineAt (d := d - 1) hE hX (by omega) _ _ (by with_reducible assumption)) rfl rfl rfl rfl (Nat.le_of_ble_eq_true rfl) (by omega) ?_
        rw [if_neg c4]
        have lc4 := lv_X9_wineAt h0 c4
        refine r_astore dX9_mix_19 (by decide) ?_
        refine r_aloadN dX9_mix_21 rfl ?_
        refine r_ifnullN (tgt := 50) dX9_mix_23 (by decide) ?_
        refine r_bipush (v := (-2 : Int32)) dX9_mix_50 (by decide) ?_
        refine r_iret dX9_mix_52 rfl rfl ?_
        exact ⟨_, rfl, by rw [f_X9_mix, if_pos c1, if_neg c2, if_neg c4], rfl⟩
  · refine x_callW (c := 9) (i := 0) hE (fun _ _ => rfl) (Nat.le_of_ble_eq_true rfl) dX9_mix_2 mf_X9_wineAt ml_RX9_121 (ok_X9_wineAt (d := d - 1) hE hX (by omega) _ _ (by with_reducible assumption)) rfl rfl rfl rfl (Nat.le_of_ble_eq_true rfl) (by omega) ?_
    rw [if_neg c1]
    have lc1 := lv_X9_wineAt h0 c1
    refine r_astore dX9_mix_5 (by decide) ?_
    refine r_aload_n dX9_mix_7 rfl ?_
    refine r_iload_n dX9_mix_8 rfl ?_
    by_cases c5 : (f_X9_wineAt S σ p2) = 0
    · refine x_callW (c := 9) (i := 0) hE (fun _ _ => rfl) (Nat.le_of_ble_eq_true rfl) dX9_mix_9 mf_X9_wineAt ml_RX9_121 (ok_X9_wineAt (d := d - 1) hE hX (by omega) _ _ (by with_reducible assumption)) rfl rfl rfl rfl (Nat.le_of_ble_eq_true rfl) (by omega) ?_
      rw [if_pos c5]
      refine r_astoreN dX9_mix_12 (by decide) ?_
      refine r_aload_n dX9_mix_14 rfl ?_
      refine r_iload_n dX9_mix_15 rfl ?_
      by_cases c6 : (f_X9_wineAt S σ p3) = 0
      · refine x_callW (c := 9) (i := 0) hE (fun _ _ => rfl) (Nat.le_of_ble_eq_true rfl) dX9_mix_16 mf_X9_wineAt ml_RX9_121 (ok_X9_wineAt (d := d - 1) hE hX (by omega) _ _ (by with_reducible assumption)) rfl rfl rfl rfl (Nat.le_of_ble_eq_true rfl) (by omega) ?_
        rw [if_pos c6]
        refine r_astoreN dX9_mix_19 (by decide) ?_
        refine r_aload dX9_mix_21 rfl ?_
        refine r_ifnull dX9_mix_23 ?_
        refine r_aloadN dX9_mix_26 rfl ?_
        refine r_ifnullN (tgt := 50) dX9_mix_28 (by decide) ?_
        refine r_bipush (v := (-2 : Int32)) dX9_mix_50 (by decide) ?_
        refine r_iret dX9_mix_52 rfl rfl ?_
        exact ⟨_, rfl, by rw [f_X9_mix, if_neg c1, if_pos c5, if_pos c6], rfl⟩
      · refine x_callW (c := 9) (i := 0) hE (fun _ _ => rfl) (Nat.le_of_ble_eq_true rfl) dX9_mix_16 mf_X9_wineAt ml_RX9_121 (ok_X9_wineAt (d := d - 1) hE hX (by omega) _ _ (by with_reducible assumption)) rfl rfl rfl rfl (Nat.le_of_ble_eq_true rfl) (by omega) ?_
        rw [if_neg c6]
        have lc6 := lv_X9_wineAt h0 c6
        refine r_astore dX9_mix_19 (by decide) ?_
        refine r_aload dX9_mix_21 rfl ?_
        refine r_ifnull dX9_mix_23 ?_
        refine r_aloadN dX9_mix_26 rfl ?_
        refine r_ifnullN (tgt := 50) dX9_mix_28 (by decide) ?_
        refine r_bipush (v := (-2 : Int32)) dX9_mix_50 (by decide) ?_
        refine r_iret dX9_mix_52 rfl rfl ?_
        exact ⟨_, rfl, by rw [f_X9_mix, if_neg c1, if_pos c5, if_neg c6], rfl⟩
    · refine x_callW (c := 9) (i := 0) hE (fun _ _ => rfl) (Nat.le_of_ble_eq_true rfl) dX9_mix_9 mf_X9_wineAt ml_RX9_121 (ok_X9_wineAt (d := d - 1) hE hX (by omega) _ _ (by with_reducible assumption)) rfl rfl rfl rfl (Nat.le_of_ble_eq_true rfl) (by omega) ?_
      rw [if_neg c5]
      have lc5 := lv_X9_wineAt h0 c5
      refine r_astore dX9_mix_12 (by decide) ?_
      refine r_aload_n dX9_mix_14 rfl ?_
      refine r_iload_n dX9_mix_15 rfl ?_
      by_cases c7 : (f_X9_wineAt S σ p3) = 0
      · refine x_callW (c := 9) (i := 0) hE (fun _ _ => rfl) (Nat.le_of_ble_eq_true rfl) dX9_mix_16 mf_X9_wineAt ml_RX9_121 (ok_X9_wineAt (d := d - 1) hE hX (by omega) _ _ (by with_reducible assumption)) rfl rfl rfl rfl (Nat.le_of_ble_eq_true rfl) (by omega) ?_
        rw [if_pos c7]
        refine r_astoreN dX9_mix_19 (by decide) ?_
        refine r_aload dX9_mix_21 rfl ?_
        refine r_ifnull dX9_mix_23 ?_
        refine r_aload dX9_mix_26 rfl ?_
        refine r_ifnull dX9_mix_28 ?_
        refine r_aloadN dX9_mix_31 rfl ?_
        refine r_ifnullN (tgt := 50) dX9_mix_33 (by decide) ?_
        refine r_bipush (v := (-2 : Int32)) dX9_mix_50 (by decide) ?_
        refine r_iret dX9_mix_52 rfl rfl ?_
        exact ⟨_, rfl, by rw [f_X9_mix, if_neg c1, if_neg c5, if_pos c7], rfl⟩
      · refine x_callW (c := 9) (i := 0) hE (fun _ _ => rfl) (Nat.le_of_ble_eq_true rfl) dX9_mix_16 mf_X9_wineAt ml_RX9_121 (ok_X9_wineAt (d := d - 1) hE hX (by omega) _ _ (by with_reducible assumption)) rfl rfl rfl rfl (Nat.le_of_ble_eq_true rfl) (by omega) ?_
        rw [if_neg c7]
        have lc7 := lv_X9_wineAt h0 c7
        refine r_astore dX9_mix_19 (by decide) ?_
        refine r_aload dX9_mix_21 rfl ?_
        refine r_ifnull dX9_mix_23 ?_
        refine r_aload dX9_mix_26 rfl ?_
        refine r_ifnull dX9_mix_28 ?_
        refine r_aload dX9_mix_31 rfl ?_
        refine r_ifnull dX9_mix_33 ?_
        refine r_iload_n dX9_mix_36 rfl ?_
        refine r_iload_n dX9_mix_37 rfl ?_
        refine r_icmp_eq (tgt := 50) dX9_mix_38 (by decide) (fun c8 => ?_) (fun c8 => ?_)
        · refine r_bipush (v := (-2 : Int32)) dX9_mix_50 (by decide) ?_
          refine r_iret dX9_mix_52 rfl rfl ?_
          exact ⟨_, rfl, by rw [f_X9_mix, if_neg c1, if_neg c5, if_neg c7, if_pos c8], rfl⟩
        · refine r_iload dX9_mix_41 rfl ?_
          refine r_iconst (v := (2 : Int32)) dX9_mix_43 (by decide) ?_
          refine r_callS0 dX9_mix_44 mf_X9_isBelow ml_RX9_136 (ok_X9_isBelow (d := d - 1) (by omega) _ _) rfl rfl (Nat.le_of_ble_eq_true rfl) (by omega) ?_
          refine r_if_ne (tgt := 53) dX9_mix_47 (by decide) (fun c9 => ?_) (fun c9 => ?_)
          · refine r_iconst (v := (0 : Int32)) dX9_mix_53 (by decide) ?_
            refine r_istore dX9_mix_54 (by decide) ?_
            refine r_aload dX9_mix_56 rfl ?_
            refine r_aload dX9_mix_58 rfl ?_
            refine r_iconst (v := (0 : Int32)) dX9_mix_60 (by decide) ?_
            refine r_aload dX9_mix_61 rfl ?_
            refine x_callS dX9_mix_63 mf_X9_far ml_RX9_239 (ok_X9_far (d := d - 1) hE hX (by omega) _ _ _ _ _ (by with_reducible assumption) (by with_reducible assumption) (by with_reducible assumption)) rfl rfl (Nat.le_of_ble_eq_true rfl) (by omega) ?_
            refine r_istore dX9_mix_66 (by decide) ?_
            refine r_iconst (v := (1 : Int32)) dX9_mix_68 (by decide) ?_
            refine r_istore dX9_mix_69 (by decide) ?_
            refine r_loc (L' := [(0, .ref (am 9 0)), (1, .int p1), (2, .int p2), (3, .int p3), (4, .int p4), (5, .ref (am 8 (Int32.toNatClampNeg p1))), (6, .ref (am 8 (Int32.toNatClampNeg p2))), (7, .ref (am 8 (Int32.toNatClampNeg p3))), (8, .int (0 : Int32)), (9, .int (f_X9_far S σ (Int32.toNatClampNeg p1) (Int32.toNatClampNeg p2) (0 : Int32) (Int32.toNatClampNeg p3))), (10, .int (1 : Int32))]) [6, 7, 8, 9, 10, 5, 4, 3, 2, 1, 0] rfl ?_
            exact lp_X9_mix_71 hE hX (by omega) (13) σ p1 p2 p3 p4 (Int32.toNatClampNeg p1) (Int32.toNatClampNeg p2) (Int32.toNatClampNeg p3) (0 : Int32) (f_X9_far S σ (Int32.toNatClampNeg p1) (Int32.toNatClampNeg p2) (0 : Int32) (Int32.toNatClampNeg p3)) (1 : Int32) (by with_reducible assumption) (by with_reducible assumption) (by with_reducible assumption) (by exact ⟨1, by decide, rfl⟩) (by omega) ⟨by rw [f_X9_mix, if_neg c1, if_neg c5, if_neg c7, if_neg c8, if_neg c9], rfl⟩
          · refine r_bipush (v := (-2 : Int32)) dX9_mix_50 (by decide) ?_
            refine r_iret dX9_mix_52 rfl rfl ?_
            exact ⟨_, rfl, by rw [f_X9_mix, if_neg c1, if_neg c5, if_neg c7, if_neg c8, if_pos c9], rfl⟩

def f_X9_said (S : XSh) (σ : XSt) (p1 : Int32) (p2 : Int32) (p3 : Int32) (p4 : Int32) : Int32 × XSt := (if (f_X9_tongueAt S σ p1) = 0 then (if (f_X9_bottleAt S σ p2) = 0 then ((-2 : Int32), σ) else ((-2 : Int32), σ)) else (if (f_X9_bottleAt S σ p2) = 0 then ((-2 : Int32), σ) else (if (f_X9_isBelow p3 (2 : Int32)) = 0 then ((-2 : Int32), σ) else (if (f_X9_isBelow p4 (σ.1 9 0 1)) = 0 then ((-2 : Int32), σ) else (if (σ.1 7 (Int32.toNatClampNeg p1) 0) < (12 : Int32) then (if p3 = (1 : Int32) then (((f_X7_judge S σ (Int32.toNatClampNeg p1) (σ.1 8 (f_X1_within S σ (Int32.toNatClampNeg p2)) 0) (σ.1 8 (S 1 (Int32.toNatClampNeg p2)) 0) (1 : Int32) p4).1 7 (Int32.toNatClampNeg p1) 0), (f_X7_judge S σ (Int32.toNatClampNeg p1) (σ.1 8 (f_X1_within S σ (Int32.toNatClampNeg p2)) 0) (σ.1 8 (S 1 (Int32.toNatClampNeg p2)) 0) (1 : Int32) p4)) else (((f_X7_judge S σ (Int32.toNatClampNeg p1) (σ.1 8 (f_X1_within S σ (Int32.toNatClampNeg p2)) 0) (σ.1 8 (S 1 (Int32.toNatClampNeg p2)) 0) (0 : Int32) p4).1 7 (Int32.toNatClampNeg p1) 0), (f_X7_judge S σ (Int32.toNatClampNeg p1) (σ.1 8 (f_X1_within S σ (Int32.toNatClampNeg p2)) 0) (σ.1 8 (S 1 (Int32.toNatClampNeg p2)) 0) (0 : Int32) p4))) else ((-4 : Int32), σ))))))
set_option maxRecDepth 100000 in
set_option maxHeartbeats 1000000 in
theorem ok_X9_said {g : GC} {B : hH} {am : XAd} {S : XSh} {d : Nat} (hE : XOk am S) (hX : GX g) (hd : 3 ≤ d) (σ : XSt) (p1 : Int32) (p2 : Int32) (p3 : Int32) (p4 : Int32) (h0 : XInv S σ) : XC g B am S d yX9_said cX9_said 7 (some FieldType.int) [.ref (am 9 0), .int p1, .int p2, .int p3, .int p4] (fun v σ' => v = some (.int (f_X9_said S σ p1 p2 p3 p4).1) ∧ σ' = (f_X9_said S σ p1 p2 p3 p4).2) σ := by
  refine AM.of2 (own := RX9) (nm := "said") (L0 := [(0, .ref (am 9 0)), (1, .int p1), (2, .int p2), (3, .int p3), (4, .int p4)]) (by decide) rfl rfl (Nat.le_of_ble_eq_true rfl) rfl ?_
  refine r_aload_n dX9_said_0 rfl ?_
  refine r_iload_n dX9_said_1 rfl ?_
  by_cases c1 : (f_X9_tongueAt S σ p1) = 0
  · refine x_callW (c := 9) (i := 0) hE (fun _ _ => rfl) (Nat.le_of_ble_eq_true rfl) dX9_said_2 mf_X9_tongueAt ml_RX9_243 (ok_X9_tongueAt (d := d - 1) hE hX (by omega) _ _) rfl rfl rfl rfl (Nat.le_of_ble_eq_true rfl) (by omega) ?_
    rw [if_pos c1]
    refine r_astoreN dX9_said_5 (by decide) ?_
    refine r_aload_n dX9_said_7 rfl ?_
    refine r_iload_n dX9_said_8 rfl ?_
    by_cases c2 : (f_X9_bottleAt S σ p2) = 0
    · refine x_callW (c := 9) (i := 0) hE (fun _ _ => rfl) (Nat.le_of_ble_eq_true rfl) dX9_said_9 mf_X9_bottleAt ml_RX9_148 (ok_X9_bottleAt (d := d - 1) hE hX (by omega) _ _ (by with_reducible assumption)) rfl rfl rfl rfl (Nat.le_of_ble_eq_true rfl) (by omega) ?_
      rw [if_pos c2]
      refine r_astoreN dX9_said_12 (by decide) ?_
      refine r_aloadN dX9_said_14 rfl ?_
      refine r_ifnullN (tgt := 44) dX9_said_16 (by decide) ?_
      refine r_bipush (v := (-2 : Int32)) dX9_said_44 (by decide) ?_
      refine r_iret dX9_said_46 rfl rfl ?_
      exact ⟨_, rfl, by rw [f_X9_said, if_pos c1, if_pos c2], by rw [f_X9_said, if_pos c1, if_pos c2]⟩
    · refine x_callW (c := 9) (i := 0) hE (fun _ _ => rfl) (Nat.le_of_ble_eq_true rfl) dX9_said_9 mf_X9_bottleAt ml_RX9_148 (ok_X9_bottleAt (d := d - 1) hE hX (by omega) _ _ (by with_reducible assumption)) rfl rfl rfl rfl (Nat.le_of_ble_eq_true rfl) (by omega) ?_
      rw [if_neg c2]
      have lc2 := lv_X9_bottleAt h0 c2
      refine r_astore dX9_said_12 (by decide) ?_
      refine r_aloadN dX9_said_14 rfl ?_
      refine r_ifnullN (tgt := 44) dX9_said_16 (by decide) ?_
      refine r_bipush (v := (-2 : Int32)) dX9_said_44 (by decide) ?_
      refine r_iret dX9_said_46 rfl rfl ?_
      exact ⟨_, rfl, by rw [f_X9_said, if_pos c1, if_neg c2], by rw [f_X9_said, if_pos c1, if_neg c2]⟩
  · refine x_callW (c := 9) (i := 0) hE (fun _ _ => rfl) (Nat.le_of_ble_eq_true rfl) dX9_said_2 mf_X9_tongueAt ml_RX9_243 (ok_X9_tongueAt (d := d - 1) hE hX (by omega) _ _) rfl rfl rfl rfl (Nat.le_of_ble_eq_true rfl) (by omega) ?_
    rw [if_neg c1]
    have lc1 := lv_X9_tongueAt c1
    refine r_astore dX9_said_5 (by decide) ?_
    refine r_aload_n dX9_said_7 rfl ?_
    refine r_iload_n dX9_said_8 rfl ?_
    by_cases c3 : (f_X9_bottleAt S σ p2) = 0
    · refine x_callW (c := 9) (i := 0) hE (fun _ _ => rfl) (Nat.le_of_ble_eq_true rfl) dX9_said_9 mf_X9_bottleAt ml_RX9_148 (ok_X9_bottleAt (d := d - 1) hE hX (by omega) _ _ (by with_reducible assumption)) rfl rfl rfl rfl (Nat.le_of_ble_eq_true rfl) (by omega) ?_
      rw [if_pos c3]
      refine r_astoreN dX9_said_12 (by decide) ?_
      refine r_aload dX9_said_14 rfl ?_
      refine r_ifnull dX9_said_16 ?_
      refine r_aloadN dX9_said_19 rfl ?_
      refine r_ifnullN (tgt := 44) dX9_said_21 (by decide) ?_
      refine r_bipush (v := (-2 : Int32)) dX9_said_44 (by decide) ?_
      refine r_iret dX9_said_46 rfl rfl ?_
      exact ⟨_, rfl, by rw [f_X9_said, if_neg c1, if_pos c3], by rw [f_X9_said, if_neg c1, if_pos c3]⟩
    · refine x_callW (c := 9) (i := 0) hE (fun _ _ => rfl) (Nat.le_of_ble_eq_true rfl) dX9_said_9 mf_X9_bottleAt ml_RX9_148 (ok_X9_bottleAt (d := d - 1) hE hX (by omega) _ _ (by with_reducible assumption)) rfl rfl rfl rfl (Nat.le_of_ble_eq_true rfl) (by omega) ?_
      rw [if_neg c3]
      have lc3 := lv_X9_bottleAt h0 c3
      refine r_astore dX9_said_12 (by decide) ?_
      refine r_aload dX9_said_14 rfl ?_
      refine r_ifnull dX9_said_16 ?_
      refine r_aload dX9_said_19 rfl ?_
      refine r_ifnull dX9_said_21 ?_
      refine r_iload_n dX9_said_24 rfl ?_
      refine r_iconst (v := (2 : Int32)) dX9_said_25 (by decide) ?_
      refine r_callS0 dX9_said_26 mf_X9_isBelow ml_RX9_136 (ok_X9_isBelow (d := d - 1) (by omega) _ _) rfl rfl (Nat.le_of_ble_eq_true rfl) (by omega) ?_
      refine r_if_eq (tgt := 44) dX9_said_29 (by decide) (fun c4 => ?_) (fun c4 => ?_)
      · refine r_bipush (v := (-2 : Int32)) dX9_said_44 (by decide) ?_
        refine r_iret dX9_said_46 rfl rfl ?_
        exact ⟨_, rfl, by rw [f_X9_said, if_neg c1, if_neg c3, if_pos c4], by rw [f_X9_said, if_neg c1, if_neg c3, if_pos c4]⟩
      · refine r_iload dX9_said_32 rfl ?_
        refine r_aload_n dX9_said_34 rfl ?_
        refine x_getI (c := 9) (x := (σ.1 9 0 1)) hE (fun _ _ => rfl) (fun _ => rfl) dX9_said_35 fl_RX9_115 (Nat.le_of_ble_eq_true rfl) rfl ?_
        refine r_callS0 dX9_said_38 mf_X9_isBelow ml_RX9_136 (ok_X9_isBelow (d := d - 1) (by omega) _ _) rfl rfl (Nat.le_of_ble_eq_true rfl) (by omega) ?_
        refine r_if_ne (tgt := 47) dX9_said_41 (by decide) (fun c5 => ?_) (fun c5 => ?_)
        · refine r_aload dX9_said_47 rfl ?_
          refine x_getI (c := 7) (x := (σ.1 7 (Int32.toNatClampNeg p1) 0)) hE (fun _ _ => rfl) (fun _ => rfl) dX9_said_49 fl_RX9_247 (by first | with_reducible assumption | exact within_lv h0 (by with_reducible assumption) | exact h0.lab (by with_reducible assumption) | exact h0.ins (by with_reducible assumption)) rfl ?_
          refine r_bipush (v := (12 : Int32)) dX9_said_52 (by decide) ?_
          refine r_icmp_lt (tgt := 60) dX9_said_54 (by decide) (fun c6 => ?_) (fun c6 => ?_)
          · refine r_aload dX9_said_60 rfl ?_
            refine r_aload dX9_said_62 rfl ?_
            refine x_callW (c := 1) (i := (Int32.toNatClampNeg p2)) hE (fun _ _ => rfl) (by first | with_reducible assumption | exact within_lv h0 (by with_reducible assumption) | exact h0.lab (by with_reducible assumption) | exact h0.ins (by with_reducible assumption)) dX9_said_64 mf_X1_within ml_RX9_250 (ok_X1_within (d := d - 1) hE hX (by omega) _ _ (by first | with_reducible assumption | exact within_lv h0 (by with_reducible assumption) | exact h0.lab (by with_reducible assumption) | exact h0.ins (by with_reducible assumption))) rfl rfl rfl rfl (Nat.le_of_ble_eq_true rfl) (by omega) ?_
            refine x_getI (c := 8) (x := (σ.1 8 (f_X1_within S σ (Int32.toNatClampNeg p2)) 0)) hE (fun _ _ => rfl) (fun _ => rfl) dX9_said_67 fl_RX9_159 (by first | with_reducible assumption | exact within_lv h0 (by with_reducible assumption) | exact h0.lab (by with_reducible assumption) | exact h0.ins (by with_reducible assumption)) rfl ?_
            refine r_aload dX9_said_70 rfl ?_
            refine x_get (c := 1) hE (fun _ _ => rfl) dX9_said_72 fl_RX9_155 (by first | with_reducible assumption | exact within_lv h0 (by with_reducible assumption) | exact h0.lab (by with_reducible assumption) | exact h0.ins (by with_reducible assumption)) rfl ?_
            refine x_getI (c := 8) (x := (σ.1 8 (S 1 (Int32.toNatClampNeg p2)) 0)) hE (fun _ _ => rfl) (fun _ => rfl) dX9_said_75 fl_RX9_159 (by first | with_reducible assumption | exact within_lv h0 (by with_reducible assumption) | exact h0.lab (by with_reducible assumption) | exact h0.ins (by with_reducible assumption)) rfl ?_
            refine r_iload_n dX9_said_78 rfl ?_
            refine r_iconst (v := (1 : Int32)) dX9_said_79 (by decide) ?_
            refine r_icmp_ne (tgt := 87) dX9_said_80 (by decide) (fun c7 => ?_) (fun c7 => ?_)
            · refine r_iconst (v := (0 : Int32)) dX9_said_87 (by decide) ?_
              refine r_iload dX9_said_88 rfl ?_
              refine x_callV0 (c := 7) (i := (Int32.toNatClampNeg p1)) hE (fun _ _ => rfl) (by first | with_reducible assumption | exact within_lv h0 (by with_reducible assumption) | exact h0.lab (by with_reducible assumption) | exact h0.ins (by with_reducible assumption)) dX9_said_90 mf_X7_judge ml_RX9_254 (ok_X7_judge (d := d - 1) hE hX (by omega) _ _ _ _ _ _ (by first | with_reducible assumption | exact within_lv h0 (by with_reducible assumption) | exact h0.lab (by with_reducible assumption) | exact h0.ins (by with_reducible assumption))) rfl rfl rfl rfl (Nat.le_of_ble_eq_true rfl) (by omega) ?_
              refine r_aload dX9_said_93 rfl ?_
              refine x_getI (c := 7) (x := ((f_X7_judge S σ (Int32.toNatClampNeg p1) (σ.1 8 (f_X1_within S σ (Int32.toNatClampNeg p2)) 0) (σ.1 8 (S 1 (Int32.toNatClampNeg p2)) 0) (0 : Int32) p4).1 7 (Int32.toNatClampNeg p1) 0)) hE (fun _ _ => rfl) (fun _ => rfl) dX9_said_95 fl_RX9_247 (by first | with_reducible assumption | exact within_lv h0 (by with_reducible assumption) | exact h0.lab (by with_reducible assumption) | exact h0.ins (by with_reducible assumption)) rfl ?_
              refine r_iret dX9_said_98 rfl rfl ?_
              exact ⟨_, rfl, by rw [f_X9_said, if_neg c1, if_neg c3, if_neg c4, if_neg c5, if_pos c6, if_neg c7], by rw [f_X9_said, if_neg c1, if_neg c3, if_neg c4, if_neg c5, if_pos c6, if_neg c7]⟩
            · refine r_iconst (v := (1 : Int32)) dX9_said_83 (by decide) ?_
              refine r_goto (tgt := 88) dX9_said_84 (by decide) ?_
              refine r_iload dX9_said_88 rfl ?_
              refine x_callV0 (c := 7) (i := (Int32.toNatClampNeg p1)) hE (fun _ _ => rfl) (by first | with_reducible assumption | exact within_lv h0 (by with_reducible assumption) | exact h0.lab (by with_reducible assumption) | exact h0.ins (by with_reducible assumption)) dX9_said_90 mf_X7_judge ml_RX9_254 (ok_X7_judge (d := d - 1) hE hX (by omega) _ _ _ _ _ _ (by first | with_reducible assumption | exact within_lv h0 (by with_reducible assumption) | exact h0.lab (by with_reducible assumption) | exact h0.ins (by with_reducible assumption))) rfl rfl rfl rfl (Nat.le_of_ble_eq_true rfl) (by omega) ?_
              refine r_aload dX9_said_93 rfl ?_
              refine x_getI (c := 7) (x := ((f_X7_judge S σ (Int32.toNatClampNeg p1) (σ.1 8 (f_X1_within S σ (Int32.toNatClampNeg p2)) 0) (σ.1 8 (S 1 (Int32.toNatClampNeg p2)) 0) (1 : Int32) p4).1 7 (Int32.toNatClampNeg p1) 0)) hE (fun _ _ => rfl) (fun _ => rfl) dX9_said_95 fl_RX9_247 (by first | with_reducible assumption | exact within_lv h0 (by with_reducible assumption) | exact h0.lab (by with_reducible assumption) | exact h0.ins (by with_reducible assumption)) rfl ?_
              refine r_iret dX9_said_98 rfl rfl ?_
              exact ⟨_, rfl, by rw [f_X9_said, if_neg c1, if_neg c3, if_neg c4, if_neg c5, if_pos c6, if_pos c7], by rw [f_X9_said, if_neg c1, if_neg c3, if_neg c4, if_neg c5, if_pos c6, if_pos c7]⟩
          · refine r_bipush (v := (-4 : Int32)) dX9_said_57 (by decide) ?_
            refine r_iret dX9_said_59 rfl rfl ?_
            exact ⟨_, rfl, by rw [f_X9_said, if_neg c1, if_neg c3, if_neg c4, if_neg c5, if_neg c6], by rw [f_X9_said, if_neg c1, if_neg c3, if_neg c4, if_neg c5, if_neg c6]⟩
        · refine r_bipush (v := (-2 : Int32)) dX9_said_44 (by decide) ?_
          refine r_iret dX9_said_46 rfl rfl ?_
          exact ⟨_, rfl, by rw [f_X9_said, if_neg c1, if_neg c3, if_neg c4, if_pos c5], by rw [f_X9_said, if_neg c1, if_neg c3, if_neg c4, if_pos c5]⟩

def f_X9_tongue (S : XSh) (σ : XSt) (p1 : Int32) (p2 : Int32) : Int32 := (if (f_X9_tongueAt S σ p1) = 0 then (-2 : Int32) else (if p2 = (0 : Int32) then (σ.1 7 (Int32.toNatClampNeg p1) 2) else if p2 = (1 : Int32) then (σ.1 7 (Int32.toNatClampNeg p1) 1) else if p2 = (2 : Int32) then (σ.1 7 (Int32.toNatClampNeg p1) 4) else if p2 = (3 : Int32) then (σ.1 7 (Int32.toNatClampNeg p1) 3) else (-2 : Int32)))
set_option maxRecDepth 100000 in
set_option maxHeartbeats 1000000 in
theorem ok_X9_tongue {g : GC} {B : hH} {am : XAd} {S : XSh} {d : Nat} (hE : XOk am S) (hX : GX g) (hd : 2 ≤ d) (σ : XSt) (p1 : Int32) (p2 : Int32)  : XC g B am S d yX9_tongue cX9_tongue 4 (some FieldType.int) [.ref (am 9 0), .int p1, .int p2] (fun v σ' => v = some (.int (f_X9_tongue S σ p1 p2)) ∧ σ' = σ) σ := by
  refine AM.of2 (own := RX9) (nm := "tongue") (L0 := [(0, .ref (am 9 0)), (1, .int p1), (2, .int p2)]) (by decide) rfl rfl (Nat.le_of_ble_eq_true rfl) rfl ?_
  refine r_aload_n dX9_tongue_0 rfl ?_
  refine r_iload_n dX9_tongue_1 rfl ?_
  by_cases c1 : (f_X9_tongueAt S σ p1) = 0
  · refine x_callW (c := 9) (i := 0) hE (fun _ _ => rfl) (Nat.le_of_ble_eq_true rfl) dX9_tongue_2 mf_X9_tongueAt ml_RX9_243 (ok_X9_tongueAt (d := d - 1) hE hX (by omega) _ _) rfl rfl rfl rfl (Nat.le_of_ble_eq_true rfl) (by omega) ?_
    rw [if_pos c1]
    refine r_astore_nN dX9_tongue_5 (by decide) ?_
    refine r_aload_nN dX9_tongue_6 rfl ?_
    refine r_ifnonnullN dX9_tongue_7 ?_
    refine r_bipush (v := (-2 : Int32)) dX9_tongue_10 (by decide) ?_
    refine r_iret dX9_tongue_12 rfl rfl ?_
    exact ⟨_, rfl, by rw [f_X9_tongue, if_pos c1], rfl⟩
  · refine x_callW (c := 9) (i := 0) hE (fun _ _ => rfl) (Nat.le_of_ble_eq_true rfl) dX9_tongue_2 mf_X9_tongueAt ml_RX9_243 (ok_X9_tongueAt (d := d - 1) hE hX (by omega) _ _) rfl rfl rfl rfl (Nat.le_of_ble_eq_true rfl) (by omega) ?_
    rw [if_neg c1]
    have lc1 := lv_X9_tongueAt c1
    refine r_astore_n dX9_tongue_5 (by decide) ?_
    refine r_aload_n dX9_tongue_6 rfl ?_
    refine r_ifnonnull (tgt := 13) dX9_tongue_7 (by decide) ?_
    refine r_iload_n dX9_tongue_13 rfl ?_
    by_cases c2 : p2 = (0 : Int32)
    · refine r_tabK (tgt := 44) dX9_tongue_14 c2 (by decide) (by decide) rfl (by decide) ?_
      refine r_aload_n dX9_tongue_44 rfl ?_
      refine x_getI (c := 7) (x := (σ.1 7 (Int32.toNatClampNeg p1) 2)) hE (fun _ _ => rfl) (fun _ => rfl) dX9_tongue_45 fl_RX9_258 (by with_reducible assumption) rfl ?_
      refine r_iret dX9_tongue_48 rfl rfl ?_
      exact ⟨_, rfl, by rw [f_X9_tongue, if_neg c1, if_pos c2], rfl⟩
    by_cases c3 : p2 = (1 : Int32)
    · refine r_tabK (tgt := 49) dX9_tongue_14 c3 (by decide) (by decide) rfl (by decide) ?_
      refine r_aload_n dX9_tongue_49 rfl ?_
      refine x_getI (c := 7) (x := (σ.1 7 (Int32.toNatClampNeg p1) 1)) hE (fun _ _ => rfl) (fun _ => rfl) dX9_tongue_50 fl_RX9_261 (by with_reducible assumption) rfl ?_
      refine r_iret dX9_tongue_53 rfl rfl ?_
      exact ⟨_, rfl, by rw [f_X9_tongue, if_neg c1, if_neg c2, if_pos c3], rfl⟩
    by_cases c4 : p2 = (2 : Int32)
    · refine r_tabK (tgt := 54) dX9_tongue_14 c4 (by decide) (by decide) rfl (by decide) ?_
      refine r_aload_n dX9_tongue_54 rfl ?_
      refine x_getI (c := 7) (x := (σ.1 7 (Int32.toNatClampNeg p1) 4)) hE (fun _ _ => rfl) (fun _ => rfl) dX9_tongue_55 fl_RX9_264 (by with_reducible assumption) rfl ?_
      refine r_iret dX9_tongue_58 rfl rfl ?_
      exact ⟨_, rfl, by rw [f_X9_tongue, if_neg c1, if_neg c2, if_neg c3, if_pos c4], rfl⟩
    by_cases c5 : p2 = (3 : Int32)
    · refine r_tabK (tgt := 59) dX9_tongue_14 c5 (by decide) (by decide) rfl (by decide) ?_
      refine r_aload_n dX9_tongue_59 rfl ?_
      refine x_getI (c := 7) (x := (σ.1 7 (Int32.toNatClampNeg p1) 3)) hE (fun _ _ => rfl) (fun _ => rfl) dX9_tongue_60 fl_RX9_267 (by with_reducible assumption) rfl ?_
      refine r_iret dX9_tongue_63 rfl rfl ?_
      exact ⟨_, rfl, by rw [f_X9_tongue, if_neg c1, if_neg c2, if_neg c3, if_neg c4, if_pos c5], rfl⟩
    refine r_tabOut (tgt := 64) dX9_tongue_14 (by have e0 : (p2).toInt ≠ 0 := ne_toInt c2; have e1 : (p2).toInt ≠ 1 := ne_toInt c3; have e2 : (p2).toInt ≠ 2 := ne_toInt c4; have e3 : (p2).toInt ≠ 3 := ne_toInt c5; omega) (by decide) ?_
    refine r_bipush (v := (-2 : Int32)) dX9_tongue_64 (by decide) ?_
    refine r_iret dX9_tongue_66 rfl rfl ?_
    exact ⟨_, rfl, by rw [f_X9_tongue, if_neg c1, if_neg c2, if_neg c3, if_neg c4, if_neg c5], rfl⟩

def f_X9_chain (S : XSh) (σ : XSt) (p1 : Int32) : Int32 := (if (f_X9_bottleAt S σ p1) = 0 then (-2 : Int32) else (σ.1 1 (Int32.toNatClampNeg p1) 7))
set_option maxRecDepth 100000 in
set_option maxHeartbeats 1000000 in
theorem ok_X9_chain {g : GC} {B : hH} {am : XAd} {S : XSh} {d : Nat} (hE : XOk am S) (hX : GX g) (hd : 2 ≤ d) (σ : XSt) (p1 : Int32) (h0 : XInv S σ) : XC g B am S d yX9_chain cX9_chain 3 (some FieldType.int) [.ref (am 9 0), .int p1] (fun v σ' => v = some (.int (f_X9_chain S σ p1)) ∧ σ' = σ) σ := by
  refine AM.of2 (own := RX9) (nm := "chain") (L0 := [(0, .ref (am 9 0)), (1, .int p1)]) (by decide) rfl rfl (Nat.le_of_ble_eq_true rfl) rfl ?_
  refine r_aload_n dX9_chain_0 rfl ?_
  refine r_iload_n dX9_chain_1 rfl ?_
  by_cases c1 : (f_X9_bottleAt S σ p1) = 0
  · refine x_callW (c := 9) (i := 0) hE (fun _ _ => rfl) (Nat.le_of_ble_eq_true rfl) dX9_chain_2 mf_X9_bottleAt ml_RX9_148 (ok_X9_bottleAt (d := d - 1) hE hX (by omega) _ _ (by with_reducible assumption)) rfl rfl rfl rfl (Nat.le_of_ble_eq_true rfl) (by omega) ?_
    rw [if_pos c1]
    refine r_astore_nN dX9_chain_5 (by decide) ?_
    refine r_aload_nN dX9_chain_6 rfl ?_
    refine r_ifnonnullN dX9_chain_7 ?_
    refine r_bipush (v := (-2 : Int32)) dX9_chain_10 (by decide) ?_
    refine r_goto (tgt := 19) dX9_chain_12 (by decide) ?_
    refine r_iret dX9_chain_19 rfl rfl ?_
    exact ⟨_, rfl, by rw [f_X9_chain, if_pos c1], rfl⟩
  · refine x_callW (c := 9) (i := 0) hE (fun _ _ => rfl) (Nat.le_of_ble_eq_true rfl) dX9_chain_2 mf_X9_bottleAt ml_RX9_148 (ok_X9_bottleAt (d := d - 1) hE hX (by omega) _ _ (by with_reducible assumption)) rfl rfl rfl rfl (Nat.le_of_ble_eq_true rfl) (by omega) ?_
    rw [if_neg c1]
    have lc1 := lv_X9_bottleAt h0 c1
    refine r_astore_n dX9_chain_5 (by decide) ?_
    refine r_aload_n dX9_chain_6 rfl ?_
    refine r_ifnonnull (tgt := 15) dX9_chain_7 (by decide) ?_
    refine r_aload_n dX9_chain_15 rfl ?_
    refine x_getI (c := 1) (x := (σ.1 1 (Int32.toNatClampNeg p1) 7)) hE (fun _ _ => rfl) (fun _ => rfl) dX9_chain_16 fl_RX9_292 (by with_reducible assumption) rfl ?_
    refine r_iret dX9_chain_19 rfl rfl ?_
    exact ⟨_, rfl, by rw [f_X9_chain, if_neg c1], rfl⟩
