section XI2
variable {S : XSh} {σ : XSt}
theorem XInv.wAt (h : XInv S σ) {p : Int32} (c : ¬ f_X9_isBelow p (σ.1 9 0 1) = 0) : p.toNatClampNeg < S 0 0 ∧ vp_in p 8 := by
  obtain ⟨k, hk, rfl⟩ := below_n h.nw.1 (by have := h.nw.2; omega) c
  have := h.nw.2
  rw [nI_clamp (by omega)]
  exact ⟨hk, vp_in_nI (by omega) (by omega)⟩
theorem XInv.bAt (h : XInv S σ) {p : Int32} (c : ¬ f_X9_isBelow p (σ.1 9 0 3) = 0) : p.toNatClampNeg < S 0 1 ∧ vp_in p 24 := by
  obtain ⟨k, hk, rfl⟩ := below_n h.nb.1 (by have := h.nb.2; omega) c
  have := h.nb.2
  rw [nI_clamp (by omega)]
  exact ⟨hk, vp_in_nI (by omega) (by omega)⟩
theorem XInv.rAt (h : XInv S σ) {p : Int32} (c : ¬ f_X9_isBelow p (σ.1 9 0 5) = 0) : p.toNatClampNeg < S 0 2 ∧ vp_in p 6 := by
  obtain ⟨k, hk, rfl⟩ := below_n h.nr.1 (by have := h.nr.2; omega) c
  have := h.nr.2
  rw [nI_clamp (by omega)]
  exact ⟨hk, vp_in_nI (by omega) (by omega)⟩
theorem XInv.bUp (h : XInv S σ) {l : Int32} (hl : Ct l 24) (c : ¬ σ.1 9 0 3 ≤ l) : l.toNatClampNeg < S 0 1 ∧ vp_in l 24 ∧ Ct (l + 1) 24 ∧ 25 - (l + 1).toNatClampNeg < 25 - l.toNatClampNeg := by
  have hb := h.nb
  obtain ⟨k, hk, rfl⟩ := id hl
  rw [hb.1] at c
  have hlt : k < S 0 1 := by
    rcases Nat.lt_or_ge k (S 0 1) with q | q
    · exact q
    · exact absurd (nI_le q (by omega)) c
  have u := Ct.up (by decide) ⟨S 0 1, hb.2, rfl⟩ hl c
  exact ⟨by rw [nI_clamp (by omega)]; exact hlt, u⟩
def Mn (S : XSh) (l : Int32) : Prop := ∃ m : Nat, l = nI m ∧ m ≤ 10 ∧ m ≤ S 0 1
theorem XInv.mn (h : XInv S σ) : Mn S (if (10 : Int32) < σ.1 9 0 3 then 10 else σ.1 9 0 3) := by
  rw [h.nb.1]
  have hb := h.nb.2
  rcases Nat.lt_or_ge 10 (S 0 1) with q | q
  · rw [if_pos (show (10 : Int32) < nI (S 0 1) from nI_lt (a := 10) q (by omega))]
    exact ⟨10, rfl, Nat.le_refl _, by omega⟩
  · rw [if_neg (show ¬ (10 : Int32) < nI (S 0 1) from fun z => absurd (nI_le (b := 10) q (by decide)) (Int32.not_le.mpr z))]
    exact ⟨S 0 1, rfl, q, Nat.le_refl _⟩
theorem Mn.up {l m : Int32} (hm : Mn S m) (hl : Ct l 10) (hS : S 0 1 ≤ 24) (c : ¬ m ≤ l) : l.toNatClampNeg < S 0 1 ∧ vp_in l 24 ∧ vp_in l 10 ∧ Ct (l + 1) 10 ∧ 11 - (l + 1).toNatClampNeg < 11 - l.toNatClampNeg := by
  obtain ⟨k, rfl, h1, h2⟩ := hm
  obtain ⟨j, hj, rfl⟩ := id hl
  have hlt : j < k := by
    rcases Nat.lt_or_ge j k with q | q
    · exact q
    · exact absurd (nI_le q (by omega)) c
  have u := Ct.up (by decide) ⟨k, h1, rfl⟩ hl c
  exact ⟨by rw [nI_clamp (by omega)]; omega, vp_in_nI (by omega) (by omega), u⟩
theorem XInv.xa (h : XInv S σ) {c i k : Nat} {x : Int32} (hc : c ≠ 23) : XInv S (xa σ c i k x) := by
  refine ⟨h.1, h.2.1, h.2.2.1, fun j hj => ?_, h.2.2.2.2⟩
  show ∃ b : Nat, b < S 0 1 ∧ up3 σ.2 c i k x 23 0 j = nI b
  rw [up3_other _ _ _ (fun q => hc q.1.symm)]
  exact h.sb hj
theorem XInv.c1 (h : XInv S σ) {i k : Nat} {x : Int32} : XInv S (xp σ 1 i k x) := h
theorem XInv.c7 (h : XInv S σ) {i k : Nat} {x : Int32} : XInv S (xp σ 7 i k x) := h
theorem XInv.c8 (h : XInv S σ) {i k : Nat} {x : Int32} : XInv S (xp σ 8 i k x) := h
theorem XInv.sbn (h : XInv S σ) {l : Int32} (hl : Ct l 40) (c : ¬ σ.1 3 0 5 ≤ l) : ∃ b : Nat, b < S 0 1 ∧ σ.2 23 0 l.toNatClampNeg = nI b := by
  refine h.sb ?_
  obtain ⟨n, hn, e⟩ := h.ns
  rw [e] at c ⊢
  obtain ⟨k, hk, rfl⟩ := hl
  rw [nI_clamp (by omega), nI_clamp (by omega)]
  rcases Nat.lt_or_ge k n with q | q
  · exact q
  · exact absurd (nI_le q (by omega)) c
end XI2

def f_X9_wineAt (S : XSh) (σ : XSt) (p1 : Int32) : Int32 := (if (f_X9_isBelow p1 (σ.1 9 0 1)) = 0 then 0 else (if (8 : Int32) ≤ p1 then 0 else 1))
set_option maxRecDepth 100000 in
set_option maxHeartbeats 1000000 in
theorem ok_X9_wineAt {g : GC} {B : hH} {am : XAd} {S : XSh} {d : Nat} (hE : XOk am S) (hX : GX g) (hd : 1 ≤ d) (σ : XSt) (p1 : Int32) (h0 : XInv S σ) : XC g B am S d yX9_wineAt cX9_wineAt 2 (some (FieldType.object "OldBottles$Wine")) [.ref (am 9 0), .int p1] (fun v σ' => v = some (if (f_X9_wineAt S σ p1) = 0 then .null else .ref (am 8 (Int32.toNatClampNeg p1))) ∧ σ' = σ) σ := by
  refine AM.of2 (own := RX9) (nm := "wineAt") (L0 := [(0, .ref (am 9 0)), (1, .int p1)]) (by decide) rfl rfl (Nat.le_of_ble_eq_true rfl) rfl ?_
  refine r_iload_n dX9_wineAt_0 rfl ?_
  refine r_aload_n dX9_wineAt_1 rfl ?_
  refine x_getI (c := 9) (x := (σ.1 9 0 1)) hE (fun _ _ => rfl) (fun _ => rfl) dX9_wineAt_2 fl_RX9_115 (Nat.le_of_ble_eq_true rfl) rfl ?_
  refine r_callS0 dX9_wineAt_5 mf_X9_isBelow ml_RX9_136 (ok_X9_isBelow (d := d - 1) (by omega) _ _) rfl rfl (Nat.le_of_ble_eq_true rfl) (by omega) ?_
  refine r_if_eq (tgt := 26) dX9_wineAt_8 (by decide) (fun c1 => ?_) (fun c1 => ?_)
  · refine r_null dX9_wineAt_26 ?_
    refine r_aret dX9_wineAt_27 rfl (Or.inl ⟨_, rfl⟩) (Or.inl rfl) ?_
    exact ⟨_, rfl, (by rw [f_X9_wineAt, if_pos c1] <;> rfl), rfl⟩
  · refine r_iload_n dX9_wineAt_11 rfl ?_
    refine r_bipush (v := (8 : Int32)) dX9_wineAt_12 (by decide) ?_
    refine r_icmp_ge (tgt := 26) dX9_wineAt_14 (by decide) (fun c2 => ?_) (fun c2 => ?_)
    · refine r_null dX9_wineAt_26 ?_
      refine r_aret dX9_wineAt_27 rfl (Or.inl ⟨_, rfl⟩) (Or.inl rfl) ?_
      exact ⟨_, rfl, (by rw [f_X9_wineAt, if_neg c1, if_pos c2] <;> rfl), rfl⟩
    · refine r_aload_n dX9_wineAt_17 rfl ?_
      refine x_get (c := 9) hE (fun _ _ => rfl) dX9_wineAt_18 fl_RX9_11 (Nat.le_of_ble_eq_true rfl) rfl ?_
      refine r_iload_n dX9_wineAt_21 rfl ?_
      refine x_aald (c := 10) (c2 := 8) (t0 := 3) (n0 := S 0 0) hE (fun _ _ => rfl) (Nat.le_of_ble_eq_true rfl) rfl dX9_wineAt_22 (by exact (h0.wAt (by with_reducible assumption)).2) (by exact (h0.wAt (by with_reducible assumption)).1) ?_
      refine r_goto (tgt := 27) dX9_wineAt_23 (by decide) ?_
      refine r_aret dX9_wineAt_27 rfl (Or.inl ⟨_, rfl⟩) (Or.inr ⟨_, rfl⟩) ?_
      exact ⟨_, rfl, (by rw [f_X9_wineAt, if_neg c1, if_neg c2] <;> rfl), rfl⟩

def f_X9_bottleAt (S : XSh) (σ : XSt) (p1 : Int32) : Int32 := (if (f_X9_isBelow p1 (σ.1 9 0 3)) = 0 then 0 else (if (24 : Int32) ≤ p1 then 0 else 1))
set_option maxRecDepth 100000 in
set_option maxHeartbeats 1000000 in
theorem ok_X9_bottleAt {g : GC} {B : hH} {am : XAd} {S : XSh} {d : Nat} (hE : XOk am S) (hX : GX g) (hd : 1 ≤ d) (σ : XSt) (p1 : Int32) (h0 : XInv S σ) : XC g B am S d yX9_bottleAt cX9_bottleAt 2 (some (FieldType.object "OldBottles$Bottle")) [.ref (am 9 0), .int p1] (fun v σ' => v = some (if (f_X9_bottleAt S σ p1) = 0 then .null else .ref (am 1 (Int32.toNatClampNeg p1))) ∧ σ' = σ) σ := by
  refine AM.of2 (own := RX9) (nm := "bottleAt") (L0 := [(0, .ref (am 9 0)), (1, .int p1)]) (by decide) rfl rfl (Nat.le_of_ble_eq_true rfl) rfl ?_
  refine r_iload_n dX9_bottleAt_0 rfl ?_
  refine r_aload_n dX9_bottleAt_1 rfl ?_
  refine x_getI (c := 9) (x := (σ.1 9 0 3)) hE (fun _ _ => rfl) (fun _ => rfl) dX9_bottleAt_2 fl_RX9_142 (Nat.le_of_ble_eq_true rfl) rfl ?_
  refine r_callS0 dX9_bottleAt_5 mf_X9_isBelow ml_RX9_136 (ok_X9_isBelow (d := d - 1) (by omega) _ _) rfl rfl (Nat.le_of_ble_eq_true rfl) (by omega) ?_
  refine r_if_eq (tgt := 26) dX9_bottleAt_8 (by decide) (fun c1 => ?_) (fun c1 => ?_)
  · refine r_null dX9_bottleAt_26 ?_
    refine r_aret dX9_bottleAt_27 rfl (Or.inl ⟨_, rfl⟩) (Or.inl rfl) ?_
    exact ⟨_, rfl, (by rw [f_X9_bottleAt, if_pos c1] <;> rfl), rfl⟩
  · refine r_iload_n dX9_bottleAt_11 rfl ?_
    refine r_bipush (v := (24 : Int32)) dX9_bottleAt_12 (by decide) ?_
    refine r_icmp_ge (tgt := 26) dX9_bottleAt_14 (by decide) (fun c2 => ?_) (fun c2 => ?_)
    · refine r_null dX9_bottleAt_26 ?_
      refine r_aret dX9_bottleAt_27 rfl (Or.inl ⟨_, rfl⟩) (Or.inl rfl) ?_
      exact ⟨_, rfl, (by rw [f_X9_bottleAt, if_neg c1, if_pos c2] <;> rfl), rfl⟩
    · refine r_aload_n dX9_bottleAt_17 rfl ?_
      refine x_get (c := 9) hE (fun _ _ => rfl) dX9_bottleAt_18 fl_RX9_17 (Nat.le_of_ble_eq_true rfl) rfl ?_
      refine r_iload_n dX9_bottleAt_21 rfl ?_
      refine x_aald (c := 11) (c2 := 1) (t0 := 4) (n0 := S 0 1) hE (fun _ _ => rfl) (Nat.le_of_ble_eq_true rfl) rfl dX9_bottleAt_22 (by exact (h0.bAt (by with_reducible assumption)).2) (by exact (h0.bAt (by with_reducible assumption)).1) ?_
      refine r_goto (tgt := 27) dX9_bottleAt_23 (by decide) ?_
      refine r_aret dX9_bottleAt_27 rfl (Or.inl ⟨_, rfl⟩) (Or.inr ⟨_, rfl⟩) ?_
      exact ⟨_, rfl, (by rw [f_X9_bottleAt, if_neg c1, if_neg c2] <;> rfl), rfl⟩

def f_X9_tongueAt (S : XSh) (σ : XSt) (p1 : Int32) : Int32 := (if (f_X9_isBelow p1 (6 : Int32)) = 0 then 0 else 1)
set_option maxRecDepth 100000 in
set_option maxHeartbeats 1000000 in
theorem ok_X9_tongueAt {g : GC} {B : hH} {am : XAd} {S : XSh} {d : Nat} (hE : XOk am S) (hX : GX g) (hd : 1 ≤ d) (σ : XSt) (p1 : Int32)  : XC g B am S d yX9_tongueAt cX9_tongueAt 2 (some (FieldType.object "OldBottles$Tongue")) [.ref (am 9 0), .int p1] (fun v σ' => v = some (if (f_X9_tongueAt S σ p1) = 0 then .null else .ref (am 7 (Int32.toNatClampNeg p1))) ∧ σ' = σ) σ := by
  refine AM.of2 (own := RX9) (nm := "tongueAt") (L0 := [(0, .ref (am 9 0)), (1, .int p1)]) (by decide) rfl rfl (Nat.le_of_ble_eq_true rfl) rfl ?_
  refine r_iload_n dX9_tongueAt_0 rfl ?_
  refine r_bipush (v := (6 : Int32)) dX9_tongueAt_1 (by decide) ?_
  refine r_callS0 dX9_tongueAt_3 mf_X9_isBelow ml_RX9_136 (ok_X9_isBelow (d := d - 1) (by omega) _ _) rfl rfl (Nat.le_of_ble_eq_true rfl) (by omega) ?_
  refine r_if_eq (tgt := 18) dX9_tongueAt_6 (by decide) (fun c1 => ?_) (fun c1 => ?_)
  · refine r_null dX9_tongueAt_18 ?_
    refine r_aret dX9_tongueAt_19 rfl (Or.inl ⟨_, rfl⟩) (Or.inl rfl) ?_
    exact ⟨_, rfl, (by rw [f_X9_tongueAt, if_pos c1] <;> rfl), rfl⟩
  · refine r_aload_n dX9_tongueAt_9 rfl ?_
    refine x_get (c := 9) hE (fun _ _ => rfl) dX9_tongueAt_10 fl_RX9_50 (Nat.le_of_ble_eq_true rfl) rfl ?_
    refine r_iload_n dX9_tongueAt_13 rfl ?_
    refine x_aald (c := 13) (c2 := 7) (t0 := 6) (n0 := 6) hE (fun _ _ => rfl) (Nat.le_of_ble_eq_true rfl) rfl dX9_tongueAt_14 (by exact below_k (m := 6) (M := 6) rfl (by decide) (by with_reducible assumption)) (by exact below_t (m := 6) (M := 6) rfl (by decide) (by with_reducible assumption)) ?_
    refine r_goto (tgt := 19) dX9_tongueAt_15 (by decide) ?_
    refine r_aret dX9_tongueAt_19 rfl (Or.inl ⟨_, rfl⟩) (Or.inr ⟨_, rfl⟩) ?_
    exact ⟨_, rfl, (by rw [f_X9_tongueAt, if_neg c1] <;> rfl), rfl⟩

def f_X9_sheetAt (S : XSh) (σ : XSt) (p1 : Int32) : Int32 := (if (f_X9_isBelow p1 (4 : Int32)) = 0 then 0 else 1)
set_option maxRecDepth 100000 in
set_option maxHeartbeats 1000000 in
theorem ok_X9_sheetAt {g : GC} {B : hH} {am : XAd} {S : XSh} {d : Nat} (hE : XOk am S) (hX : GX g) (hd : 1 ≤ d) (σ : XSt) (p1 : Int32)  : XC g B am S d yX9_sheetAt cX9_sheetAt 2 (some (FieldType.object "OldBottles$Sheet")) [.ref (am 9 0), .int p1] (fun v σ' => v = some (if (f_X9_sheetAt S σ p1) = 0 then .null else .ref (am 6 (Int32.toNatClampNeg p1))) ∧ σ' = σ) σ := by
  refine AM.of2 (own := RX9) (nm := "sheetAt") (L0 := [(0, .ref (am 9 0)), (1, .int p1)]) (by decide) rfl rfl (Nat.le_of_ble_eq_true rfl) rfl ?_
  refine r_iload_n dX9_sheetAt_0 rfl ?_
  refine r_iconst (v := (4 : Int32)) dX9_sheetAt_1 (by decide) ?_
  refine r_callS0 dX9_sheetAt_2 mf_X9_isBelow ml_RX9_136 (ok_X9_isBelow (d := d - 1) (by omega) _ _) rfl rfl (Nat.le_of_ble_eq_true rfl) (by omega) ?_
  refine r_if_eq (tgt := 17) dX9_sheetAt_5 (by decide) (fun c1 => ?_) (fun c1 => ?_)
  · refine r_null dX9_sheetAt_17 ?_
    refine r_aret dX9_sheetAt_18 rfl (Or.inl ⟨_, rfl⟩) (Or.inl rfl) ?_
    exact ⟨_, rfl, (by rw [f_X9_sheetAt, if_pos c1] <;> rfl), rfl⟩
  · refine r_aload_n dX9_sheetAt_8 rfl ?_
    refine x_get (c := 9) hE (fun _ _ => rfl) dX9_sheetAt_9 fl_RX9_56 (Nat.le_of_ble_eq_true rfl) rfl ?_
    refine r_iload_n dX9_sheetAt_12 rfl ?_
    refine x_aald (c := 14) (c2 := 6) (t0 := 7) (n0 := 4) hE (fun _ _ => rfl) (Nat.le_of_ble_eq_true rfl) rfl dX9_sheetAt_13 (by exact below_k (m := 4) (M := 4) rfl (by decide) (by with_reducible assumption)) (by exact below_t (m := 4) (M := 4) rfl (by decide) (by with_reducible assumption)) ?_
    refine r_goto (tgt := 18) dX9_sheetAt_14 (by decide) ?_
    refine r_aret dX9_sheetAt_18 rfl (Or.inl ⟨_, rfl⟩) (Or.inr ⟨_, rfl⟩) ?_
    exact ⟨_, rfl, (by rw [f_X9_sheetAt, if_neg c1] <;> rfl), rfl⟩

theorem lv_X9_wineAt {S : XSh} {σ : XSt} {p : Int32} (h : XInv S σ) (c : ¬ f_X9_wineAt S σ p = 0) : p.toNatClampNeg < lim S 8 := by
  unfold f_X9_wineAt at c
  by_cases q : f_X9_isBelow p (σ.1 9 0 1) = 0
  · rw [if_pos q] at c; exact absurd rfl c
  · exact (h.wAt q).1
theorem lv_X9_bottleAt {S : XSh} {σ : XSt} {p : Int32} (h : XInv S σ) (c : ¬ f_X9_bottleAt S σ p = 0) : p.toNatClampNeg < lim S 1 := by
  unfold f_X9_bottleAt at c
  by_cases q : f_X9_isBelow p (σ.1 9 0 3) = 0
  · rw [if_pos q] at c; exact absurd rfl c
  · exact (h.bAt q).1
theorem lv_X9_tongueAt {S : XSh} {σ : XSt} {p : Int32} (c : ¬ f_X9_tongueAt S σ p = 0) : p.toNatClampNeg < lim S 7 := by
  unfold f_X9_tongueAt at c
  by_cases q : f_X9_isBelow p 6 = 0
  · rw [if_pos q] at c; exact absurd rfl c
  · exact below_t (m := 6) (M := 6) rfl (by decide) q
theorem lv_X9_sheetAt {S : XSh} {σ : XSt} {p : Int32} (c : ¬ f_X9_sheetAt S σ p = 0) : p.toNatClampNeg < lim S 6 := by
  unfold f_X9_sheetAt at c
  by_cases q : f_X9_isBelow p 4 = 0
  · rw [if_pos q] at c; exact absurd rfl c
  · exact below_t (m := 4) (M := 4) rfl (by decide) q
theorem f_bottleAt {S : XSh} {σ : XSt} (h : XInv S σ) (p : Int32) : (f_X9_bottleAt S σ p = 0 ∧ ¬ ∃ b : Nat, b < S 0 1 ∧ p = nI b) ∨ (f_X9_bottleAt S σ p = 1 ∧ ∃ b : Nat, b < S 0 1 ∧ p = nI b) := by
  have hb := h.nb
  unfold f_X9_bottleAt
  rw [f_below, hb.1]
  by_cases q : (0 : Int32) ≤ p ∧ p < nI (S 0 1)
  · rw [if_pos q]
    obtain ⟨k, hk, rfl⟩ := nI_of_rg (N := S 0 1) (by omega) q.1 (Int32.le_of_lt q.2)
    have hlt : k < S 0 1 := by
      rcases Nat.lt_or_ge k (S 0 1) with z | z
      · exact z
      · exact absurd q.2 (Int32.not_lt.mpr (nI_le z (by omega)))
    have h24 : ¬ (24 : Int32) ≤ nI k := fun z => by have := (nI_leI (a := 24) (by omega) (by omega)).mp z; omega
    rw [if_neg (by decide), if_neg h24]
    exact Or.inr ⟨rfl, k, hlt, rfl⟩
  · rw [if_neg q, if_pos rfl]
    exact Or.inl ⟨rfl, fun ⟨b, h1, h2⟩ => q (by subst h2; exact ⟨Int32.not_lt.mp (nI_pos (by omega)), nI_lt h1 (by omega)⟩)⟩
theorem XInv.bSb {S : XSh} {σ : XSt} (h : XInv S σ) {l : Int32} (hl : Ct l 40) (c : ¬ σ.1 3 0 5 ≤ l) : ¬ f_X9_bottleAt S σ (σ.2 23 0 l.toNatClampNeg) = 0 := by
  rcases f_bottleAt h (σ.2 23 0 l.toNatClampNeg) with q | q
  · exact absurd (h.sbn hl c) q.2
  · rw [q.1]; decide
theorem XInv.bSl {S : XSh} {σ : XSt} (h : XInv S σ) {l : Int32} (hl : Ct l 40) (c : ¬ σ.1 3 0 5 ≤ l) : (σ.2 23 0 l.toNatClampNeg).toNatClampNeg < lim S 1 := lv_X9_bottleAt h (h.bSb hl c)

def f_X9_barBits_L4 : Nat → XSh → XSt → Nat → Int32 → Int32 → Int32
  | 0, _, _, _, _, _ => 0
  | n + 1, S, σ, l1, l2, l3 => (if (3 : Int32) ≤ l3 then l2 else (if (f_X0_bars S σ 0 l1 l3) = 0 then (f_X9_barBits_L4 n S σ l1 l2 (l3 + (1 : Int32))) else (f_X9_barBits_L4 n S σ l1 (l2 ||| ((1 : Int32) <<< (l3 &&& 31))) (l3 + (1 : Int32)))))
set_option maxRecDepth 100000 in
set_option maxHeartbeats 1000000 in
theorem lp_X9_barBits_4 {g : GC} {B : hH} {am : XAd} {S : XSh} {d : Nat} {K : Option Value → XSt → Prop} (hE : XOk am S) (hX : GX g) (hd : 2 ≤ d) : ∀ (fuel : Nat) (σ : XSt) (l1 : Nat) (l2 : Int32) (l3 : Int32), XInv S σ → l1 < lim S 1 → Ct l3 3 → 4 - l3.toNatClampNeg < fuel → K (some (.int (f_X9_barBits_L4 fuel S σ l1 l2 l3))) σ → XW g B am S RX9 cX9_barBits 4 (some FieldType.int) "barBits" d K 4 [(0, .ref (am 9 0)), (1, .ref (am 1 l1)), (2, .int l2), (3, .int l3)] [] σ := by
  intro fuel
  induction fuel with
  | zero => intro σ l1 l2 l3 i0 i1 i2 hm hK; exact absurd hm (Nat.not_lt_zero _)
  | succ n ih =>
    intro σ l1 l2 l3 i0 i1 i2 hm hK
    refine r_iload_n dX9_barBits_4 rfl ?_
    refine r_iconst (v := (3 : Int32)) dX9_barBits_5 (by decide) ?_
    refine r_icmp_ge (tgt := 33) dX9_barBits_6 (by decide) (fun c1 => ?_) (fun c1 => ?_)
    · refine r_iload_n dX9_barBits_33 rfl ?_
      refine r_iret dX9_barBits_34 rfl rfl ?_
      exact ⟨_, rfl, by rw [f_X9_barBits_L4, if_pos c1] at hK; exact hK⟩
    · refine r_aload_n dX9_barBits_9 rfl ?_
      refine x_get (c := 9) hE (fun _ _ => rfl) dX9_barBits_10 fl_RX9_30 (Nat.le_of_ble_eq_true rfl) rfl ?_
      refine r_aload_n dX9_barBits_13 rfl ?_
      refine r_iload_n dX9_barBits_14 rfl ?_
      refine x_callW (c := 0) (i := 0) hE (fun _ _ => rfl) (Nat.le_of_ble_eq_true rfl) dX9_barBits_15 mf_X0_bars ml_RX9_303 (ok_X0_bars (d := d - 1) hE hX (by omega) _ _ _ _ (Nat.le_of_ble_eq_true rfl) (by first | with_reducible assumption | exact i0.lab i1) (by with_reducible assumption)) rfl rfl rfl rfl (Nat.le_of_ble_eq_true rfl) (by omega) ?_
      refine r_if_eq (tgt := 27) dX9_barBits_18 (by decide) (fun c2 => ?_) (fun c2 => ?_)
      · refine r_iinc2 (w := (1 : Int32)) dX9_barBits_27 rfl (by decide) (by decide) ?_
        refine r_goto (tgt := 4) dX9_barBits_30 (by decide) ?_
        refine r_loc (L' := [(0, .ref (am 9 0)), (1, .ref (am 1 l1)), (2, .int l2), (3, .int (l3 + (1 : Int32)))]) [1, 2, 3, 0] rfl ?_
        exact ih σ  l1 l2 (l3 + (1 : Int32)) (by exact i0) (by exact i1) (by exact (Ct.up (by decide) ct3 i2 (by with_reducible assumption)).2.1) (by have u := (Ct.up (by decide) ct3 i2 (by with_reducible assumption)).2.2; omega) (by rw [f_X9_barBits_L4, if_neg c1, if_pos c2] at hK; exact hK)
      · refine r_iload_n dX9_barBits_21 rfl ?_
        refine r_iconst (v := (1 : Int32)) dX9_barBits_22 (by decide) ?_
        refine r_iload_n dX9_barBits_23 rfl ?_
        refine r_ishl dX9_barBits_24 ?_
        refine r_ior dX9_barBits_25 ?_
        refine r_istore_n dX9_barBits_26 (by decide) ?_
        refine r_iinc2 (w := (1 : Int32)) dX9_barBits_27 rfl (by decide) (by decide) ?_
        refine r_goto (tgt := 4) dX9_barBits_30 (by decide) ?_
        refine r_loc (L' := [(0, .ref (am 9 0)), (1, .ref (am 1 l1)), (2, .int (l2 ||| ((1 : Int32) <<< (l3 &&& 31)))), (3, .int (l3 + (1 : Int32)))]) [2, 3, 1, 0] rfl ?_
        exact ih σ  l1 (l2 ||| ((1 : Int32) <<< (l3 &&& 31))) (l3 + (1 : Int32)) (by exact i0) (by exact i1) (by exact (Ct.up (by decide) ct3 i2 (by with_reducible assumption)).2.1) (by have u := (Ct.up (by decide) ct3 i2 (by with_reducible assumption)).2.2; omega) (by rw [f_X9_barBits_L4, if_neg c1, if_neg c2] at hK; exact hK)
def f_X9_barBits (S : XSh) (σ : XSt) (p1 : Nat) : Int32 := (f_X9_barBits_L4 (5) S σ p1 (0 : Int32) (0 : Int32))
set_option maxRecDepth 100000 in
set_option maxHeartbeats 1000000 in
theorem ok_X9_barBits {g : GC} {B : hH} {am : XAd} {S : XSh} {d : Nat} (hE : XOk am S) (hX : GX g) (hd : 2 ≤ d) (σ : XSt) (p1 : Nat) (hp1 : p1 < lim S 1) (h0 : XInv S σ) : XC g B am S d yX9_barBits cX9_barBits 4 (some FieldType.int) [.ref (am 9 0), .ref (am 1 p1)] (fun v σ' => v = some (.int (f_X9_barBits S σ p1)) ∧ σ' = σ) σ := by
  refine AM.of2 (own := RX9) (nm := "barBits") (L0 := [(0, .ref (am 9 0)), (1, .ref (am 1 p1))]) (by decide) rfl rfl (Nat.le_of_ble_eq_true rfl) rfl ?_
  refine r_iconst (v := (0 : Int32)) dX9_barBits_0 (by decide) ?_
  refine r_istore_n dX9_barBits_1 (by decide) ?_
  refine r_iconst (v := (0 : Int32)) dX9_barBits_2 (by decide) ?_
  refine r_istore_n dX9_barBits_3 (by decide) ?_
  refine r_loc (L' := [(0, .ref (am 9 0)), (1, .ref (am 1 p1)), (2, .int (0 : Int32)), (3, .int (0 : Int32))]) [2, 3, 1, 0] rfl ?_
  exact lp_X9_barBits_4 hE hX (by omega) (5) σ p1 (0 : Int32) (0 : Int32) (by exact h0) (by exact hp1) (by exact Ct.zero _) (by omega) ⟨by rw [f_X9_barBits], rfl⟩

def f_X9_oddBits_L4 : Nat → XSh → XSt → Nat → Int32 → Int32 → Int32
  | 0, _, _, _, _, _ => 0
  | n + 1, S, σ, l1, l2, l3 => (if (3 : Int32) ≤ l3 then l2 else (if (f_X9_partOf (σ.1 1 l1 3) l3) = (f_X9_partOf (σ.1 8 (S 1 l1) 3) l3) then (f_X9_oddBits_L4 n S σ l1 l2 (l3 + (1 : Int32))) else (if (f_X0_bars S σ 0 l1 l3) = 0 then (f_X9_oddBits_L4 n S σ l1 (l2 ||| ((1 : Int32) <<< (l3 &&& 31))) (l3 + (1 : Int32))) else (f_X9_oddBits_L4 n S σ l1 l2 (l3 + (1 : Int32))))))
set_option maxRecDepth 100000 in
set_option maxHeartbeats 1000000 in
theorem lp_X9_oddBits_4 {g : GC} {B : hH} {am : XAd} {S : XSh} {d : Nat} {K : Option Value → XSt → Prop} (hE : XOk am S) (hX : GX g) (hd : 2 ≤ d) : ∀ (fuel : Nat) (σ : XSt) (l1 : Nat) (l2 : Int32) (l3 : Int32), XInv S σ → l1 < lim S 1 → Ct l3 3 → 4 - l3.toNatClampNeg < fuel → K (some (.int (f_X9_oddBits_L4 fuel S σ l1 l2 l3))) σ → XW g B am S RX9 cX9_oddBits 4 (some FieldType.int) "oddBits" d K 4 [(0, .ref (am 9 0)), (1, .ref (am 1 l1)), (2, .int l2), (3, .int l3)] [] σ := by
  intro fuel
  induction fuel with
  | zero => intro σ l1 l2 l3 i0 i1 i2 hm hK; exact absurd hm (Nat.not_lt_zero _)
  | succ n ih =>
    intro σ l1 l2 l3 i0 i1 i2 hm hK
    refine r_iload_n dX9_oddBits_4 rfl ?_
    refine r_iconst (v := (3 : Int32)) dX9_oddBits_5 (by decide) ?_
    refine r_icmp_ge (tgt := 55) dX9_oddBits_6 (by decide) (fun c1 => ?_) (fun c1 => ?_)
    · refine r_iload_n dX9_oddBits_55 rfl ?_
      refine r_iret dX9_oddBits_56 rfl rfl ?_
      exact ⟨_, rfl, by rw [f_X9_oddBits_L4, if_pos c1] at hK; exact hK⟩
    · refine r_aload_n dX9_oddBits_9 rfl ?_
      refine x_getI (c := 1) (x := (σ.1 1 l1 3)) hE (fun _ _ => rfl) (fun _ => rfl) dX9_oddBits_10 fl_RX9_187 (by first | with_reducible assumption | exact i0.lab i1) rfl ?_
      refine r_iload_n dX9_oddBits_13 rfl ?_
      refine r_callS0 dX9_oddBits_14 mf_X9_partOf ml_RX9_190 (ok_X9_partOf (d := d - 1) (by omega) _ _) rfl rfl (Nat.le_of_ble_eq_true rfl) (by omega) ?_
      refine r_aload_n dX9_oddBits_17 rfl ?_
      refine x_get (c := 1) hE (fun _ _ => rfl) dX9_oddBits_18 fl_RX9_155 (by first | with_reducible assumption | exact i0.lab i1) rfl ?_
      refine x_getI (c := 8) (x := (σ.1 8 (S 1 l1) 3)) hE (fun _ _ => rfl) (fun _ => rfl) dX9_oddBits_21 fl_RX9_372 (by first | with_reducible assumption | exact i0.lab i1) rfl ?_
      refine r_iload_n dX9_oddBits_24 rfl ?_
      refine r_callS0 dX9_oddBits_25 mf_X9_partOf ml_RX9_190 (ok_X9_partOf (d := d - 1) (by omega) _ _) rfl rfl (Nat.le_of_ble_eq_true rfl) (by omega) ?_
      refine r_icmp_eq (tgt := 49) dX9_oddBits_28 (by decide) (fun c2 => ?_) (fun c2 => ?_)
      · refine r_iinc2 (w := (1 : Int32)) dX9_oddBits_49 rfl (by decide) (by decide) ?_
        refine r_goto (tgt := 4) dX9_oddBits_52 (by decide) ?_
        refine r_loc (L' := [(0, .ref (am 9 0)), (1, .ref (am 1 l1)), (2, .int l2), (3, .int (l3 + (1 : Int32)))]) [1, 2, 3, 0] rfl ?_
        exact ih σ  l1 l2 (l3 + (1 : Int32)) (by exact i0) (by exact i1) (by exact (Ct.up (by decide) ct3 i2 (by with_reducible assumption)).2.1) (by have u := (Ct.up (by decide) ct3 i2 (by with_reducible assumption)).2.2; omega) (by rw [f_X9_oddBits_L4, if_neg c1, if_pos c2] at hK; exact hK)
      · refine r_aload_n dX9_oddBits_31 rfl ?_
        refine x_get (c := 9) hE (fun _ _ => rfl) dX9_oddBits_32 fl_RX9_30 (Nat.le_of_ble_eq_true rfl) rfl ?_
        refine r_aload_n dX9_oddBits_35 rfl ?_
        refine r_iload_n dX9_oddBits_36 rfl ?_
        refine x_callW (c := 0) (i := 0) hE (fun _ _ => rfl) (Nat.le_of_ble_eq_true rfl) dX9_oddBits_37 mf_X0_bars ml_RX9_303 (ok_X0_bars (d := d - 1) hE hX (by omega) _ _ _ _ (Nat.le_of_ble_eq_true rfl) (by first | with_reducible assumption | exact i0.lab i1) (by with_reducible assumption)) rfl rfl rfl rfl (Nat.le_of_ble_eq_true rfl) (by omega) ?_
        refine r_if_ne (tgt := 49) dX9_oddBits_40 (by decide) (fun c3 => ?_) (fun c3 => ?_)
        · refine r_iinc2 (w := (1 : Int32)) dX9_oddBits_49 rfl (by decide) (by decide) ?_
          refine r_goto (tgt := 4) dX9_oddBits_52 (by decide) ?_
          refine r_loc (L' := [(0, .ref (am 9 0)), (1, .ref (am 1 l1)), (2, .int l2), (3, .int (l3 + (1 : Int32)))]) [1, 2, 3, 0] rfl ?_
          exact ih σ  l1 l2 (l3 + (1 : Int32)) (by exact i0) (by exact i1) (by exact (Ct.up (by decide) ct3 i2 (by with_reducible assumption)).2.1) (by have u := (Ct.up (by decide) ct3 i2 (by with_reducible assumption)).2.2; omega) (by rw [f_X9_oddBits_L4, if_neg c1, if_neg c2, if_neg c3] at hK; exact hK)
        · refine r_iload_n dX9_oddBits_43 rfl ?_
          refine r_iconst (v := (1 : Int32)) dX9_oddBits_44 (by decide) ?_
          refine r_iload_n dX9_oddBits_45 rfl ?_
          refine r_ishl dX9_oddBits_46 ?_
          refine r_ior dX9_oddBits_47 ?_
          refine r_istore_n dX9_oddBits_48 (by decide) ?_
          refine r_iinc2 (w := (1 : Int32)) dX9_oddBits_49 rfl (by decide) (by decide) ?_
          refine r_goto (tgt := 4) dX9_oddBits_52 (by decide) ?_
          refine r_loc (L' := [(0, .ref (am 9 0)), (1, .ref (am 1 l1)), (2, .int (l2 ||| ((1 : Int32) <<< (l3 &&& 31)))), (3, .int (l3 + (1 : Int32)))]) [2, 3, 1, 0] rfl ?_
          exact ih σ  l1 (l2 ||| ((1 : Int32) <<< (l3 &&& 31))) (l3 + (1 : Int32)) (by exact i0) (by exact i1) (by exact (Ct.up (by decide) ct3 i2 (by with_reducible assumption)).2.1) (by have u := (Ct.up (by decide) ct3 i2 (by with_reducible assumption)).2.2; omega) (by rw [f_X9_oddBits_L4, if_neg c1, if_neg c2, if_pos c3] at hK; exact hK)
def f_X9_oddBits (S : XSh) (σ : XSt) (p1 : Nat) : Int32 := (f_X9_oddBits_L4 (5) S σ p1 (0 : Int32) (0 : Int32))
set_option maxRecDepth 100000 in
set_option maxHeartbeats 1000000 in
theorem ok_X9_oddBits {g : GC} {B : hH} {am : XAd} {S : XSh} {d : Nat} (hE : XOk am S) (hX : GX g) (hd : 2 ≤ d) (σ : XSt) (p1 : Nat) (hp1 : p1 < lim S 1) (h0 : XInv S σ) : XC g B am S d yX9_oddBits cX9_oddBits 4 (some FieldType.int) [.ref (am 9 0), .ref (am 1 p1)] (fun v σ' => v = some (.int (f_X9_oddBits S σ p1)) ∧ σ' = σ) σ := by
  refine AM.of2 (own := RX9) (nm := "oddBits") (L0 := [(0, .ref (am 9 0)), (1, .ref (am 1 p1))]) (by decide) rfl rfl (Nat.le_of_ble_eq_true rfl) rfl ?_
  refine r_iconst (v := (0 : Int32)) dX9_oddBits_0 (by decide) ?_
  refine r_istore_n dX9_oddBits_1 (by decide) ?_
  refine r_iconst (v := (0 : Int32)) dX9_oddBits_2 (by decide) ?_
  refine r_istore_n dX9_oddBits_3 (by decide) ?_
  refine r_loc (L' := [(0, .ref (am 9 0)), (1, .ref (am 1 p1)), (2, .int (0 : Int32)), (3, .int (0 : Int32))]) [2, 3, 1, 0] rfl ?_
  exact lp_X9_oddBits_4 hE hX (by omega) (5) σ p1 (0 : Int32) (0 : Int32) (by exact h0) (by exact hp1) (by exact Ct.zero _) (by omega) ⟨by rw [f_X9_oddBits], rfl⟩

def f_X9_isBarred (S : XSh) (σ : XSt) (p1 : Nat) : Int32 := (if (σ.1 8 (S 1 p1) 2) = 0 then (1 : Int32) else (if (f_X9_barBits S σ p1) = 0 then (0 : Int32) else (1 : Int32)))
set_option maxRecDepth 100000 in
set_option maxHeartbeats 1000000 in
theorem ok_X9_isBarred {g : GC} {B : hH} {am : XAd} {S : XSh} {d : Nat} (hE : XOk am S) (hX : GX g) (hd : 3 ≤ d) (σ : XSt) (p1 : Nat) (hp1 : p1 < lim S 1) (h0 : XInv S σ) : XC g B am S d yX9_isBarred cX9_isBarred 2 (some FieldType.boolean) [.ref (am 9 0), .ref (am 1 p1)] (fun v σ' => v = some (.int (f_X9_isBarred S σ p1)) ∧ σ' = σ) σ := by
  refine AM.of2 (own := RX9) (nm := "isBarred") (L0 := [(0, .ref (am 9 0)), (1, .ref (am 1 p1))]) (by decide) rfl rfl (Nat.le_of_ble_eq_true rfl) rfl ?_
  refine r_aload_n dX9_isBarred_0 rfl ?_
  refine r_ifnull dX9_isBarred_1 ?_
  refine r_aload_n dX9_isBarred_4 rfl ?_
  refine x_get (c := 1) hE (fun _ _ => rfl) dX9_isBarred_5 fl_RX9_155 (by first | with_reducible assumption | exact h0.lab hp1) rfl ?_
  refine x_getI (c := 8) (x := (σ.1 8 (S 1 p1) 2)) hE (fun _ _ => rfl) (fun _ => rfl) dX9_isBarred_8 fl_RX9_375 (by first | with_reducible assumption | exact h0.lab hp1) rfl ?_
  refine r_if_eq (tgt := 22) dX9_isBarred_11 (by decide) (fun c1 => ?_) (fun c1 => ?_)
  · refine r_iconst (v := (1 : Int32)) dX9_isBarred_22 (by decide) ?_
    refine r_goto (tgt := 27) dX9_isBarred_23 (by decide) ?_
    refine r_iret dX9_isBarred_27 rfl (by decide) ?_
    exact ⟨_, rfl, by rw [f_X9_isBarred, if_pos c1], rfl⟩
  · refine r_aload_n dX9_isBarred_14 rfl ?_
    refine r_aload_n dX9_isBarred_15 rfl ?_
    refine x_callW (c := 9) (i := 0) hE (fun _ _ => rfl) (Nat.le_of_ble_eq_true rfl) dX9_isBarred_16 mf_X9_barBits ml_RX9_162 (ok_X9_barBits (d := d - 1) hE hX (by omega) _ _ (by first | with_reducible assumption | exact h0.lab hp1) (by with_reducible assumption)) rfl rfl rfl rfl (Nat.le_of_ble_eq_true rfl) (by omega) ?_
    refine r_if_eq (tgt := 26) dX9_isBarred_19 (by decide) (fun c2 => ?_) (fun c2 => ?_)
    · refine r_iconst (v := (0 : Int32)) dX9_isBarred_26 (by decide) ?_
      refine r_iret dX9_isBarred_27 rfl (by decide) ?_
      exact ⟨_, rfl, by rw [f_X9_isBarred, if_neg c1, if_pos c2], rfl⟩
    · refine r_iconst (v := (1 : Int32)) dX9_isBarred_22 (by decide) ?_
      refine r_goto (tgt := 27) dX9_isBarred_23 (by decide) ?_
      refine r_iret dX9_isBarred_27 rfl (by decide) ?_
      exact ⟨_, rfl, by rw [f_X9_isBarred, if_neg c1, if_neg c2], rfl⟩
theorem bz_X9_isBarred (S : XSh) (σ : XSt) (p1 : Nat) : narrow .boolean (.int (f_X9_isBarred S σ p1)) = .int (f_X9_isBarred S σ p1) := by
  unfold f_X9_isBarred
  (repeat' split) <;> first | rfl | decide | skip

def f_X9_barredBottles_L4 : Nat → XSh → XSt → Int32 → Int32 → Int32
  | 0, _, _, _, _ => 0
  | n + 1, S, σ, l1, l2 => (if (σ.1 9 0 3) ≤ l2 then l1 else (if (f_X9_isBarred S σ (Int32.toNatClampNeg l2)) = 0 then (f_X9_barredBottles_L4 n S σ l1 (l2 + (1 : Int32))) else (f_X9_barredBottles_L4 n S σ (l1 + (1 : Int32)) (l2 + (1 : Int32)))))
set_option maxRecDepth 100000 in
set_option maxHeartbeats 1000000 in
theorem lp_X9_barredBottles_4 {g : GC} {B : hH} {am : XAd} {S : XSh} {d : Nat} {K : Option Value → XSt → Prop} (hE : XOk am S) (hX : GX g) (hd : 4 ≤ d) : ∀ (fuel : Nat) (σ : XSt) (l1 : Int32) (l2 : Int32), XInv S σ → Ct l2 24 → 25 - l2.toNatClampNeg < fuel → K (some (.int (f_X9_barredBottles_L4 fuel S σ l1 l2))) σ → XW g B am S RX9 cX9_barredBottles 3 (some FieldType.int) "barredBottles" d K 4 [(0, .ref (am 9 0)), (1, .int l1), (2, .int l2)] [] σ := by
  intro fuel
  induction fuel with
  | zero => intro σ l1 l2 i0 i1 hm hK; exact absurd hm (Nat.not_lt_zero _)
  | succ n ih =>
    intro σ l1 l2 i0 i1 hm hK
    refine r_iload_n dX9_barredBottles_4 rfl ?_
    refine r_aload_n dX9_barredBottles_5 rfl ?_
    refine x_getI (c := 9) (x := (σ.1 9 0 3)) hE (fun _ _ => rfl) (fun _ => rfl) dX9_barredBottles_6 fl_RX9_142 (Nat.le_of_ble_eq_true rfl) rfl ?_
    refine r_icmp_ge (tgt := 34) dX9_barredBottles_9 (by decide) (fun c1 => ?_) (fun c1 => ?_)
    · refine r_iload_n dX9_barredBottles_34 rfl ?_
      refine r_iret dX9_barredBottles_35 rfl rfl ?_
      exact ⟨_, rfl, by rw [f_X9_barredBottles_L4, if_pos c1] at hK; exact hK⟩
    · refine r_aload_n dX9_barredBottles_12 rfl ?_
      refine r_aload_n dX9_barredBottles_13 rfl ?_
      refine x_get (c := 9) hE (fun _ _ => rfl) dX9_barredBottles_14 fl_RX9_17 (Nat.le_of_ble_eq_true rfl) rfl ?_
      refine r_iload_n dX9_barredBottles_17 rfl ?_
      refine x_aald (c := 11) (c2 := 1) (t0 := 4) (n0 := S 0 1) hE (fun _ _ => rfl) (Nat.le_of_ble_eq_true rfl) rfl dX9_barredBottles_18 (by exact (i0.bUp i1 (by with_reducible assumption)).2.1) (by exact (i0.bUp i1 (by with_reducible assumption)).1) ?_
      refine x_callW (c := 9) (i := 0) hE (fun _ _ => rfl) (Nat.le_of_ble_eq_true rfl) dX9_barredBottles_19 mf_X9_isBarred ml_RX9_169 (ok_X9_isBarred (d := d - 1) hE hX (by omega) _ _ (by first | with_reducible assumption | exact (i0.bUp i1 (by with_reducible assumption)).1) (by with_reducible assumption)) rfl rfl rfl rfl (Nat.le_of_ble_eq_true rfl) (by omega) ?_
      refine r_if_eq (tgt := 28) dX9_barredBottles_22 (by decide) (fun c2 => ?_) (fun c2 => ?_)
      · refine r_iinc2 (w := (1 : Int32)) dX9_barredBottles_28 rfl (by decide) (by decide) ?_
        refine r_goto (tgt := 4) dX9_barredBottles_31 (by decide) ?_
        refine r_loc (L' := [(0, .ref (am 9 0)), (1, .int l1), (2, .int (l2 + (1 : Int32)))]) [1, 2, 0] rfl ?_
        exact ih σ  l1 (l2 + (1 : Int32)) (by exact i0) (by exact (i0.bUp i1 (by with_reducible assumption)).2.2.1) (by have u := (i0.bUp i1 (by with_reducible assumption)).2.2.2; omega) (by rw [f_X9_barredBottles_L4, if_neg c1, if_pos c2] at hK; exact hK)
      · refine r_iinc2 (w := (1 : Int32)) dX9_barredBottles_25 rfl (by decide) (by decide) ?_
        refine r_iinc2 (w := (1 : Int32)) dX9_barredBottles_28 rfl (by decide) (by decide) ?_
        refine r_goto (tgt := 4) dX9_barredBottles_31 (by decide) ?_
        refine r_loc (L' := [(0, .ref (am 9 0)), (1, .int (l1 + (1 : Int32))), (2, .int (l2 + (1 : Int32)))]) [2, 1, 0] rfl ?_
        exact ih σ  (l1 + (1 : Int32)) (l2 + (1 : Int32)) (by exact i0) (by exact (i0.bUp i1 (by with_reducible assumption)).2.2.1) (by have u := (i0.bUp i1 (by with_reducible assumption)).2.2.2; omega) (by rw [f_X9_barredBottles_L4, if_neg c1, if_neg c2] at hK; exact hK)
def f_X9_barredBottles (S : XSh) (σ : XSt)  : Int32 := (f_X9_barredBottles_L4 (26) S σ (0 : Int32) (0 : Int32))
set_option maxRecDepth 100000 in
set_option maxHeartbeats 1000000 in
theorem ok_X9_barredBottles {g : GC} {B : hH} {am : XAd} {S : XSh} {d : Nat} (hE : XOk am S) (hX : GX g) (hd : 4 ≤ d) (σ : XSt)  (h0 : XInv S σ) : XC g B am S d yX9_barredBottles cX9_barredBottles 3 (some FieldType.int) [.ref (am 9 0)] (fun v σ' => v = some (.int (f_X9_barredBottles S σ)) ∧ σ' = σ) σ := by
  refine AM.of2 (own := RX9) (nm := "barredBottles") (L0 := [(0, .ref (am 9 0))]) (by decide) rfl rfl (Nat.le_of_ble_eq_true rfl) rfl ?_
  refine r_iconst (v := (0 : Int32)) dX9_barredBottles_0 (by decide) ?_
  refine r_istore_n dX9_barredBottles_1 (by decide) ?_
  refine r_iconst (v := (0 : Int32)) dX9_barredBottles_2 (by decide) ?_
  refine r_istore_n dX9_barredBottles_3 (by decide) ?_
  refine r_loc (L' := [(0, .ref (am 9 0)), (1, .int (0 : Int32)), (2, .int (0 : Int32))]) [2, 1, 0] rfl ?_
  exact lp_X9_barredBottles_4 hE hX (by omega) (26) σ (0 : Int32) (0 : Int32) (by exact h0) (by exact Ct.zero _) (by omega) ⟨by rw [f_X9_barredBottles], rfl⟩

def f_X9_soldBottles_L4 : Nat → XSh → XSt → Int32 → Int32 → Int32
  | 0, _, _, _, _ => 0
  | n + 1, S, σ, l1, l2 => (if (σ.1 9 0 3) ≤ l2 then l1 else (if (σ.1 1 (Int32.toNatClampNeg l2) 4) ≤ 0 then (f_X9_soldBottles_L4 n S σ l1 (l2 + (1 : Int32))) else (f_X9_soldBottles_L4 n S σ (l1 + (1 : Int32)) (l2 + (1 : Int32)))))
set_option maxRecDepth 100000 in
set_option maxHeartbeats 1000000 in
theorem lp_X9_soldBottles_4 {g : GC} {B : hH} {am : XAd} {S : XSh} {d : Nat} {K : Option Value → XSt → Prop} (hE : XOk am S) (hX : GX g) (hd : 0 ≤ d) : ∀ (fuel : Nat) (σ : XSt) (l1 : Int32) (l2 : Int32), XInv S σ → Ct l2 24 → 25 - l2.toNatClampNeg < fuel → K (some (.int (f_X9_soldBottles_L4 fuel S σ l1 l2))) σ → XW g B am S RX9 cX9_soldBottles 4 (some FieldType.int) "soldBottles" d K 4 [(0, .ref (am 9 0)), (1, .int l1), (2, .int l2)] [] σ := by
  intro fuel
  induction fuel with
  | zero => intro σ l1 l2 i0 i1 hm hK; exact absurd hm (Nat.not_lt_zero _)
  | succ n ih =>
    intro σ l1 l2 i0 i1 hm hK
    refine r_iload_n dX9_soldBottles_4 rfl ?_
    refine r_aload_n dX9_soldBottles_5 rfl ?_
    refine x_getI (c := 9) (x := (σ.1 9 0 3)) hE (fun _ _ => rfl) (fun _ => rfl) dX9_soldBottles_6 fl_RX9_142 (Nat.le_of_ble_eq_true rfl) rfl ?_
    refine r_icmp_ge (tgt := 39) dX9_soldBottles_9 (by decide) (fun c1 => ?_) (fun c1 => ?_)
    · refine r_iload_n dX9_soldBottles_39 rfl ?_
      refine r_iret dX9_soldBottles_40 rfl rfl ?_
      exact ⟨_, rfl, by rw [f_X9_soldBottles_L4, if_pos c1] at hK; exact hK⟩
    · refine r_aload_n dX9_soldBottles_12 rfl ?_
      refine x_get (c := 9) hE (fun _ _ => rfl) dX9_soldBottles_13 fl_RX9_17 (Nat.le_of_ble_eq_true rfl) rfl ?_
      refine r_iload_n dX9_soldBottles_16 rfl ?_
      refine x_aald (c := 11) (c2 := 1) (t0 := 4) (n0 := S 0 1) hE (fun _ _ => rfl) (Nat.le_of_ble_eq_true rfl) rfl dX9_soldBottles_17 (by exact (i0.bUp i1 (by with_reducible assumption)).2.1) (by exact (i0.bUp i1 (by with_reducible assumption)).1) ?_
      refine r_astore_n dX9_soldBottles_18 (by decide) ?_
      refine r_aload_n dX9_soldBottles_19 rfl ?_
      refine r_ifnull dX9_soldBottles_20 ?_
      refine r_aload_n dX9_soldBottles_23 rfl ?_
      refine x_getI (c := 1) (x := (σ.1 1 (Int32.toNatClampNeg l2) 4)) hE (fun _ _ => rfl) (fun _ => rfl) dX9_soldBottles_24 fl_RX9_378 (by first | with_reducible assumption | exact (i0.bUp i1 (by with_reducible assumption)).1) rfl ?_
      refine r_if_le (tgt := 33) dX9_soldBottles_27 (by decide) (fun c2 => ?_) (fun c2 => ?_)
      · refine r_iinc2 (w := (1 : Int32)) dX9_soldBottles_33 rfl (by decide) (by decide) ?_
        refine r_goto (tgt := 4) dX9_soldBottles_36 (by decide) ?_
        refine r_loc (L' := [(0, .ref (am 9 0)), (1, .int l1), (2, .int (l2 + (1 : Int32)))]) [2, 3, 0] rfl ?_
        exact ih σ  l1 (l2 + (1 : Int32)) (by exact i0) (by exact (i0.bUp i1 (by with_reducible assumption)).2.2.1) (by have u := (i0.bUp i1 (by with_reducible assumption)).2.2.2; omega) (by rw [f_X9_soldBottles_L4, if_neg c1, if_pos c2] at hK; exact hK)
      · refine r_iinc2 (w := (1 : Int32)) dX9_soldBottles_30 rfl (by decide) (by decide) ?_
        refine r_iinc2 (w := (1 : Int32)) dX9_soldBottles_33 rfl (by decide) (by decide) ?_
        refine r_goto (tgt := 4) dX9_soldBottles_36 (by decide) ?_
        refine r_loc (L' := [(0, .ref (am 9 0)), (1, .int (l1 + (1 : Int32))), (2, .int (l2 + (1 : Int32)))]) [3, 1, 0] rfl ?_
        exact ih σ  (l1 + (1 : Int32)) (l2 + (1 : Int32)) (by exact i0) (by exact (i0.bUp i1 (by with_reducible assumption)).2.2.1) (by have u := (i0.bUp i1 (by with_reducible assumption)).2.2.2; omega) (by rw [f_X9_soldBottles_L4, if_neg c1, if_neg c2] at hK; exact hK)
def f_X9_soldBottles (S : XSh) (σ : XSt)  : Int32 := (f_X9_soldBottles_L4 (26) S σ (0 : Int32) (0 : Int32))
set_option maxRecDepth 100000 in
set_option maxHeartbeats 1000000 in
theorem ok_X9_soldBottles {g : GC} {B : hH} {am : XAd} {S : XSh} {d : Nat} (hE : XOk am S) (hX : GX g) (hd : 0 ≤ d) (σ : XSt)  (h0 : XInv S σ) : XC g B am S d yX9_soldBottles cX9_soldBottles 4 (some FieldType.int) [.ref (am 9 0)] (fun v σ' => v = some (.int (f_X9_soldBottles S σ)) ∧ σ' = σ) σ := by
  refine AM.of2 (own := RX9) (nm := "soldBottles") (L0 := [(0, .ref (am 9 0))]) (by decide) rfl rfl (Nat.le_of_ble_eq_true rfl) rfl ?_
  refine r_iconst (v := (0 : Int32)) dX9_soldBottles_0 (by decide) ?_
  refine r_istore_n dX9_soldBottles_1 (by decide) ?_
  refine r_iconst (v := (0 : Int32)) dX9_soldBottles_2 (by decide) ?_
  refine r_istore_n dX9_soldBottles_3 (by decide) ?_
  refine r_loc (L' := [(0, .ref (am 9 0)), (1, .int (0 : Int32)), (2, .int (0 : Int32))]) [2, 1, 0] rfl ?_
  exact lp_X9_soldBottles_4 hE hX (by omega) (26) σ (0 : Int32) (0 : Int32) (by exact h0) (by exact Ct.zero _) (by omega) ⟨by rw [f_X9_soldBottles], rfl⟩

def f_X9_soldOf_L4 : Nat → XSh → XSt → Int32 → Int32 → Int32 → Int32
  | 0, _, _, _, _, _ => 0
  | n + 1, S, σ, l1, l2, l3 => (if (σ.1 9 0 3) ≤ l3 then l2 else (if (σ.1 8 (S 1 (Int32.toNatClampNeg l3)) 0) = l1 then (if (σ.1 1 (Int32.toNatClampNeg l3) 4) ≤ 0 then (f_X9_soldOf_L4 n S σ l1 l2 (l3 + (1 : Int32))) else (f_X9_soldOf_L4 n S σ l1 (l2 + (1 : Int32)) (l3 + (1 : Int32)))) else (f_X9_soldOf_L4 n S σ l1 l2 (l3 + (1 : Int32)))))
set_option maxRecDepth 100000 in
set_option maxHeartbeats 1000000 in
theorem lp_X9_soldOf_4 {g : GC} {B : hH} {am : XAd} {S : XSh} {d : Nat} {K : Option Value → XSt → Prop} (hE : XOk am S) (hX : GX g) (hd : 0 ≤ d) : ∀ (fuel : Nat) (σ : XSt) (l1 : Int32) (l2 : Int32) (l3 : Int32), XInv S σ → Ct l3 24 → 25 - l3.toNatClampNeg < fuel → K (some (.int (f_X9_soldOf_L4 fuel S σ l1 l2 l3))) σ → XW g B am S RX9 cX9_soldOf 5 (some FieldType.int) "soldOf" d K 4 [(0, .ref (am 9 0)), (1, .int l1), (2, .int l2), (3, .int l3)] [] σ := by
  intro fuel
  induction fuel with
  | zero => intro σ l1 l2 l3 i0 i1 hm hK; exact absurd hm (Nat.not_lt_zero _)
  | succ n ih =>
    intro σ l1 l2 l3 i0 i1 hm hK
    refine r_iload_n dX9_soldOf_4 rfl ?_
    refine r_aload_n dX9_soldOf_5 rfl ?_
    refine x_getI (c := 9) (x := (σ.1 9 0 3)) hE (fun _ _ => rfl) (fun _ => rfl) dX9_soldOf_6 fl_RX9_142 (Nat.le_of_ble_eq_true rfl) rfl ?_
    refine r_icmp_ge (tgt := 54) dX9_soldOf_9 (by decide) (fun c1 => ?_) (fun c1 => ?_)
    · refine r_iload_n dX9_soldOf_54 rfl ?_
      refine r_iret dX9_soldOf_55 rfl rfl ?_
      exact ⟨_, rfl, by rw [f_X9_soldOf_L4, if_pos c1] at hK; exact hK⟩
    · refine r_aload_n dX9_soldOf_12 rfl ?_
      refine x_get (c := 9) hE (fun _ _ => rfl) dX9_soldOf_13 fl_RX9_17 (Nat.le_of_ble_eq_true rfl) rfl ?_
      refine r_iload_n dX9_soldOf_16 rfl ?_
      refine x_aald (c := 11) (c2 := 1) (t0 := 4) (n0 := S 0 1) hE (fun _ _ => rfl) (Nat.le_of_ble_eq_true rfl) rfl dX9_soldOf_17 (by exact (i0.bUp i1 (by with_reducible assumption)).2.1) (by exact (i0.bUp i1 (by with_reducible assumption)).1) ?_
      refine r_astore dX9_soldOf_18 (by decide) ?_
      refine r_aload dX9_soldOf_20 rfl ?_
      refine r_ifnull dX9_soldOf_22 ?_
      refine r_aload dX9_soldOf_25 rfl ?_
      refine x_get (c := 1) hE (fun _ _ => rfl) dX9_soldOf_27 fl_RX9_155 (by first | with_reducible assumption | exact (i0.bUp i1 (by with_reducible assumption)).1 | exact i0.lab (i0.bUp i1 (by with_reducible assumption)).1) rfl ?_
      refine x_getI (c := 8) (x := (σ.1 8 (S 1 (Int32.toNatClampNeg l3)) 0)) hE (fun _ _ => rfl) (fun _ => rfl) dX9_soldOf_30 fl_RX9_159 (by first | with_reducible assumption | exact (i0.bUp i1 (by with_reducible assumption)).1 | exact i0.lab (i0.bUp i1 (by with_reducible assumption)).1) rfl ?_
      refine r_iload_n dX9_soldOf_33 rfl ?_
      refine r_icmp_ne (tgt := 48) dX9_soldOf_34 (by decide) (fun c2 => ?_) (fun c2 => ?_)
      · refine r_iinc2 (w := (1 : Int32)) dX9_soldOf_48 rfl (by decide) (by decide) ?_
        refine r_goto (tgt := 4) dX9_soldOf_51 (by decide) ?_
        refine r_loc (L' := [(0, .ref (am 9 0)), (1, .int l1), (2, .int l2), (3, .int (l3 + (1 : Int32)))]) [2, 3, 4, 0] rfl ?_
        exact ih σ  l1 l2 (l3 + (1 : Int32)) (by exact i0) (by exact (i0.bUp i1 (by with_reducible assumption)).2.2.1) (by have u := (i0.bUp i1 (by with_reducible assumption)).2.2.2; omega) (by rw [f_X9_soldOf_L4, if_neg c1, if_neg c2] at hK; exact hK)
      · refine r_aload dX9_soldOf_37 rfl ?_
        refine x_getI (c := 1) (x := (σ.1 1 (Int32.toNatClampNeg l3) 4)) hE (fun _ _ => rfl) (fun _ => rfl) dX9_soldOf_39 fl_RX9_378 (by first | with_reducible assumption | exact (i0.bUp i1 (by with_reducible assumption)).1 | exact i0.lab (i0.bUp i1 (by with_reducible assumption)).1) rfl ?_
        refine r_if_le (tgt := 48) dX9_soldOf_42 (by decide) (fun c3 => ?_) (fun c3 => ?_)
        · refine r_iinc2 (w := (1 : Int32)) dX9_soldOf_48 rfl (by decide) (by decide) ?_
          refine r_goto (tgt := 4) dX9_soldOf_51 (by decide) ?_
          refine r_loc (L' := [(0, .ref (am 9 0)), (1, .int l1), (2, .int l2), (3, .int (l3 + (1 : Int32)))]) [2, 3, 4, 0] rfl ?_
          exact ih σ  l1 l2 (l3 + (1 : Int32)) (by exact i0) (by exact (i0.bUp i1 (by with_reducible assumption)).2.2.1) (by have u := (i0.bUp i1 (by with_reducible assumption)).2.2.2; omega) (by rw [f_X9_soldOf_L4, if_neg c1, if_pos c2, if_pos c3] at hK; exact hK)
        · refine r_iinc2 (w := (1 : Int32)) dX9_soldOf_45 rfl (by decide) (by decide) ?_
          refine r_iinc2 (w := (1 : Int32)) dX9_soldOf_48 rfl (by decide) (by decide) ?_
          refine r_goto (tgt := 4) dX9_soldOf_51 (by decide) ?_
          refine r_loc (L' := [(0, .ref (am 9 0)), (1, .int l1), (2, .int (l2 + (1 : Int32))), (3, .int (l3 + (1 : Int32)))]) [3, 4, 1, 0] rfl ?_
          exact ih σ  l1 (l2 + (1 : Int32)) (l3 + (1 : Int32)) (by exact i0) (by exact (i0.bUp i1 (by with_reducible assumption)).2.2.1) (by have u := (i0.bUp i1 (by with_reducible assumption)).2.2.2; omega) (by rw [f_X9_soldOf_L4, if_neg c1, if_pos c2, if_neg c3] at hK; exact hK)
def f_X9_soldOf (S : XSh) (σ : XSt) (p1 : Int32) : Int32 := (f_X9_soldOf_L4 (26) S σ p1 (0 : Int32) (0 : Int32))
set_option maxRecDepth 100000 in
set_option maxHeartbeats 1000000 in
theorem ok_X9_soldOf {g : GC} {B : hH} {am : XAd} {S : XSh} {d : Nat} (hE : XOk am S) (hX : GX g) (hd : 0 ≤ d) (σ : XSt) (p1 : Int32) (h0 : XInv S σ) : XC g B am S d yX9_soldOf cX9_soldOf 5 (some FieldType.int) [.ref (am 9 0), .int p1] (fun v σ' => v = some (.int (f_X9_soldOf S σ p1)) ∧ σ' = σ) σ := by
  refine AM.of2 (own := RX9) (nm := "soldOf") (L0 := [(0, .ref (am 9 0)), (1, .int p1)]) (by decide) rfl rfl (Nat.le_of_ble_eq_true rfl) rfl ?_
  refine r_iconst (v := (0 : Int32)) dX9_soldOf_0 (by decide) ?_
  refine r_istore_n dX9_soldOf_1 (by decide) ?_
  refine r_iconst (v := (0 : Int32)) dX9_soldOf_2 (by decide) ?_
  refine r_istore_n dX9_soldOf_3 (by decide) ?_
  refine r_loc (L' := [(0, .ref (am 9 0)), (1, .int p1), (2, .int (0 : Int32)), (3, .int (0 : Int32))]) [2, 3, 1, 0] rfl ?_
  exact lp_X9_soldOf_4 hE hX (by omega) (26) σ p1 (0 : Int32) (0 : Int32) (by exact h0) (by exact Ct.zero _) (by omega) ⟨by rw [f_X9_soldOf], rfl⟩

def f_X9_soldBy_L5 : Nat → XSh → XSt → Int32 → Int32 → Int32 → Int32 → Int32
  | 0, _, _, _, _, _, _ => 0
  | n + 1, S, σ, l1, l2, l3, l4 => (if (σ.1 3 0 5) ≤ l4 then l3 else (if (σ.2 24 0 (Int32.toNatClampNeg l4)) = l1 then (if l2 = 0 then (f_X9_soldBy_L5 n S σ l1 l2 (l3 + (1 : Int32)) (l4 + (1 : Int32))) else (if (f_X9_isBarred S σ (Int32.toNatClampNeg (σ.2 23 0 (Int32.toNatClampNeg l4)))) = 0 then (f_X9_soldBy_L5 n S σ l1 l2 l3 (l4 + (1 : Int32))) else (f_X9_soldBy_L5 n S σ l1 l2 (l3 + (1 : Int32)) (l4 + (1 : Int32))))) else (f_X9_soldBy_L5 n S σ l1 l2 l3 (l4 + (1 : Int32)))))
set_option maxRecDepth 100000 in
set_option maxHeartbeats 1000000 in
theorem lp_X9_soldBy_5 {g : GC} {B : hH} {am : XAd} {S : XSh} {d : Nat} {K : Option Value → XSt → Prop} (hE : XOk am S) (hX : GX g) (hd : 4 ≤ d) : ∀ (fuel : Nat) (σ : XSt) (l1 : Int32) (l2 : Int32) (l3 : Int32) (l4 : Int32), XInv S σ → Ct l4 40 → 41 - l4.toNatClampNeg < fuel → K (some (.int (f_X9_soldBy_L5 fuel S σ l1 l2 l3 l4))) σ → XW g B am S RX9 cX9_soldBy 5 (some FieldType.int) "soldBy" d K 5 [(0, .ref (am 9 0)), (1, .int l1), (2, .int l2), (3, .int l3), (4, .int l4)] [] σ := by
  intro fuel
  induction fuel with
  | zero => intro σ l1 l2 l3 l4 i0 i1 hm hK; exact absurd hm (Nat.not_lt_zero _)
  | succ n ih =>
    intro σ l1 l2 l3 l4 i0 i1 hm hK
    refine r_iload dX9_soldBy_5 rfl ?_
    refine r_aload_n dX9_soldBy_7 rfl ?_
    refine x_get (c := 9) hE (fun _ _ => rfl) dX9_soldBy_8 fl_RX9_37 (Nat.le_of_ble_eq_true rfl) rfl ?_
    refine x_getI (c := 3) (x := (σ.1 3 0 5)) hE (fun _ _ => rfl) (fun _ => rfl) dX9_soldBy_11 fl_RX9_199 (Nat.le_of_ble_eq_true rfl) rfl ?_
    refine r_icmp_ge (tgt := 65) dX9_soldBy_14 (by decide) (fun c1 => ?_) (fun c1 => ?_)
    · refine r_iload_n dX9_soldBy_65 rfl ?_
      refine r_iret dX9_soldBy_66 rfl rfl ?_
      exact ⟨_, rfl, by rw [f_X9_soldBy_L5, if_pos c1] at hK; exact hK⟩
    · refine r_aload_n dX9_soldBy_17 rfl ?_
      refine x_get (c := 9) hE (fun _ _ => rfl) dX9_soldBy_18 fl_RX9_37 (Nat.le_of_ble_eq_true rfl) rfl ?_
      refine x_get (c := 3) hE (fun _ _ => rfl) dX9_soldBy_21 fl_RX9_280 (Nat.le_of_ble_eq_true rfl) rfl ?_
      refine r_iload dX9_soldBy_24 rfl ?_
      refine x_ialdV (c := 24) (i := 0) (N := 40) (x := (σ.2 24 0 (Int32.toNatClampNeg l4))) hE (fun _ _ => rfl) dX9_soldBy_26 (Nat.le_of_ble_eq_true rfl) (by first | with_reducible assumption | exact (Ct.up (by decide) i0.ns i1 (by with_reducible assumption)).1) rfl ?_
      refine r_iload_n dX9_soldBy_27 rfl ?_
      refine r_icmp_ne (tgt := 59) dX9_soldBy_28 (by decide) (fun c2 => ?_) (fun c2 => ?_)
      · refine r_iinc2 (w := (1 : Int32)) dX9_soldBy_59 rfl (by decide) (by decide) ?_
        refine r_goto (tgt := 5) dX9_soldBy_62 (by decide) ?_
        refine r_loc (L' := [(0, .ref (am 9 0)), (1, .int l1), (2, .int l2), (3, .int l3), (4, .int (l4 + (1 : Int32)))]) [1, 2, 3, 4, 0] rfl ?_
        exact ih σ  l1 l2 l3 (l4 + (1 : Int32)) (by exact i0) (by exact (Ct.up (by decide) i0.ns i1 (by with_reducible assumption)).2.1) (by have u := (Ct.up (by decide) i0.ns i1 (by with_reducible assumption)).2.2; omega) (by rw [f_X9_soldBy_L5, if_neg c1, if_neg c2] at hK; exact hK)
      · refine r_iload_n dX9_soldBy_31 rfl ?_
        refine r_if_eq (tgt := 56) dX9_soldBy_32 (by decide) (fun c3 => ?_) (fun c3 => ?_)
        · refine r_iinc2 (w := (1 : Int32)) dX9_soldBy_56 rfl (by decide) (by decide) ?_
          refine r_iinc2 (w := (1 : Int32)) dX9_soldBy_59 rfl (by decide) (by decide) ?_
          refine r_goto (tgt := 5) dX9_soldBy_62 (by decide) ?_
          refine r_loc (L' := [(0, .ref (am 9 0)), (1, .int l1), (2, .int l2), (3, .int (l3 + (1 : Int32))), (4, .int (l4 + (1 : Int32)))]) [2, 3, 4, 1, 0] rfl ?_
          exact ih σ  l1 l2 (l3 + (1 : Int32)) (l4 + (1 : Int32)) (by exact i0) (by exact (Ct.up (by decide) i0.ns i1 (by with_reducible assumption)).2.1) (by have u := (Ct.up (by decide) i0.ns i1 (by with_reducible assumption)).2.2; omega) (by rw [f_X9_soldBy_L5, if_neg c1, if_pos c2, if_pos c3] at hK; exact hK)
        · refine r_aload_n dX9_soldBy_35 rfl ?_
          refine r_aload_n dX9_soldBy_36 rfl ?_
          refine r_aload_n dX9_soldBy_37 rfl ?_
          refine x_get (c := 9) hE (fun _ _ => rfl) dX9_soldBy_38 fl_RX9_37 (Nat.le_of_ble_eq_true rfl) rfl ?_
          refine x_get (c := 3) hE (fun _ _ => rfl) dX9_soldBy_41 fl_RX9_286 (Nat.le_of_ble_eq_true rfl) rfl ?_
          refine r_iload dX9_soldBy_44 rfl ?_
          refine x_ialdV (c := 23) (i := 0) (N := 40) (x := (σ.2 23 0 (Int32.toNatClampNeg l4))) hE (fun _ _ => rfl) dX9_soldBy_46 (Nat.le_of_ble_eq_true rfl) (by first | with_reducible assumption | exact (Ct.up (by decide) i0.ns i1 (by with_reducible assumption)).1) rfl ?_
          refine x_callW (c := 9) (i := 0) hE (fun _ _ => rfl) (Nat.le_of_ble_eq_true rfl) dX9_soldBy_47 mf_X9_bottleAt ml_RX9_148 (ok_X9_bottleAt (d := d - 1) hE hX (by omega) _ _ (by first | with_reducible assumption | exact (Ct.up (by decide) i0.ns i1 (by with_reducible assumption)).1)) rfl rfl rfl rfl (Nat.le_of_ble_eq_true rfl) (by omega) ?_
          rw [if_neg (by exact i0.bSb i1 (by with_reducible assumption))]
          refine x_callW (c := 9) (i := 0) hE (fun _ _ => rfl) (Nat.le_of_ble_eq_true rfl) dX9_soldBy_50 mf_X9_isBarred ml_RX9_169 (ok_X9_isBarred (d := d - 1) hE hX (by omega) _ _ (by first | with_reducible assumption | exact i0.bSl i1 (by with_reducible assumption)) (by first | with_reducible assumption | exact (Ct.up (by decide) i0.ns i1 (by with_reducible assumption)).1)) rfl rfl rfl rfl (Nat.le_of_ble_eq_true rfl) (by omega) ?_
          refine r_if_eq (tgt := 59) dX9_soldBy_53 (by decide) (fun c4 => ?_) (fun c4 => ?_)
          · refine r_iinc2 (w := (1 : Int32)) dX9_soldBy_59 rfl (by decide) (by decide) ?_
            refine r_goto (tgt := 5) dX9_soldBy_62 (by decide) ?_
            refine r_loc (L' := [(0, .ref (am 9 0)), (1, .int l1), (2, .int l2), (3, .int l3), (4, .int (l4 + (1 : Int32)))]) [1, 2, 3, 4, 0] rfl ?_
            exact ih σ  l1 l2 l3 (l4 + (1 : Int32)) (by exact i0) (by exact (Ct.up (by decide) i0.ns i1 (by with_reducible assumption)).2.1) (by have u := (Ct.up (by decide) i0.ns i1 (by with_reducible assumption)).2.2; omega) (by rw [f_X9_soldBy_L5, if_neg c1, if_pos c2, if_neg c3, if_pos c4] at hK; exact hK)
          · refine r_iinc2 (w := (1 : Int32)) dX9_soldBy_56 rfl (by decide) (by decide) ?_
            refine r_iinc2 (w := (1 : Int32)) dX9_soldBy_59 rfl (by decide) (by decide) ?_
            refine r_goto (tgt := 5) dX9_soldBy_62 (by decide) ?_
            refine r_loc (L' := [(0, .ref (am 9 0)), (1, .int l1), (2, .int l2), (3, .int (l3 + (1 : Int32))), (4, .int (l4 + (1 : Int32)))]) [2, 3, 4, 1, 0] rfl ?_
            exact ih σ  l1 l2 (l3 + (1 : Int32)) (l4 + (1 : Int32)) (by exact i0) (by exact (Ct.up (by decide) i0.ns i1 (by with_reducible assumption)).2.1) (by have u := (Ct.up (by decide) i0.ns i1 (by with_reducible assumption)).2.2; omega) (by rw [f_X9_soldBy_L5, if_neg c1, if_pos c2, if_neg c3, if_neg c4] at hK; exact hK)
def f_X9_soldBy (S : XSh) (σ : XSt) (p1 : Int32) (p2 : Int32) : Int32 := (f_X9_soldBy_L5 (42) S σ p1 p2 (0 : Int32) (0 : Int32))
set_option maxRecDepth 100000 in
set_option maxHeartbeats 1000000 in
theorem ok_X9_soldBy {g : GC} {B : hH} {am : XAd} {S : XSh} {d : Nat} (hE : XOk am S) (hX : GX g) (hd : 4 ≤ d) (σ : XSt) (p1 : Int32) (p2 : Int32) (h0 : XInv S σ) : XC g B am S d yX9_soldBy cX9_soldBy 5 (some FieldType.int) [.ref (am 9 0), .int p1, .int p2] (fun v σ' => v = some (.int (f_X9_soldBy S σ p1 p2)) ∧ σ' = σ) σ := by
  refine AM.of2 (own := RX9) (nm := "soldBy") (L0 := [(0, .ref (am 9 0)), (1, .int p1), (2, .int p2)]) (by decide) rfl rfl (Nat.le_of_ble_eq_true rfl) rfl ?_
  refine r_iconst (v := (0 : Int32)) dX9_soldBy_0 (by decide) ?_
  refine r_istore_n dX9_soldBy_1 (by decide) ?_
  refine r_iconst (v := (0 : Int32)) dX9_soldBy_2 (by decide) ?_
  refine r_istore dX9_soldBy_3 (by decide) ?_
  refine r_loc (L' := [(0, .ref (am 9 0)), (1, .int p1), (2, .int p2), (3, .int (0 : Int32)), (4, .int (0 : Int32))]) [2, 3, 4, 1, 0] rfl ?_
  exact lp_X9_soldBy_5 hE hX (by omega) (42) σ p1 p2 (0 : Int32) (0 : Int32) (by exact h0) (by exact Ct.zero _) (by omega) ⟨by rw [f_X9_soldBy], rfl⟩

def f_X9_sumBelow_17_L4 : Nat → XSh → XSt → Int32 → Int32 → Int32 → Int32
  | 0, _, _, _, _, _ => 0
  | n + 1, S, σ, l1, l2, l3 => (if l1 ≤ l3 then l2 else (if (10 : Int32) ≤ l3 then l2 else (f_X9_sumBelow_17_L4 n S σ l1 (l2 + (σ.2 17 0 (Int32.toNatClampNeg l3))) (l3 + (1 : Int32)))))
set_option maxRecDepth 100000 in
set_option maxHeartbeats 1000000 in
theorem lp_X9_sumBelow_17_4 {g : GC} {B : hH} {am : XAd} {S : XSh} {d : Nat} {K : Option Value → XSt → Prop} (hE : XOk am S) (hX : GX g) (hd : 0 ≤ d) : ∀ (fuel : Nat) (σ : XSt) (l1 : Int32) (l2 : Int32) (l3 : Int32), Ct l3 10 → 11 - l3.toNatClampNeg < fuel → K (some (.int (f_X9_sumBelow_17_L4 fuel S σ l1 l2 l3))) σ → XW g B am S RX9 cX9_sumBelow 4 (some FieldType.int) "sumBelow" d K 4 [(0, .ref (am 17 0)), (1, .int l1), (2, .int l2), (3, .int l3)] [] σ := by
  intro fuel
  induction fuel with
  | zero => intro σ l1 l2 l3 i0 hm hK; exact absurd hm (Nat.not_lt_zero _)
  | succ n ih =>
    intro σ l1 l2 l3 i0 hm hK
    refine r_iload_n dX9_sumBelow_4 rfl ?_
    refine r_iload_n dX9_sumBelow_5 rfl ?_
    refine r_icmp_ge (tgt := 27) dX9_sumBelow_6 (by decide) (fun c1 => ?_) (fun c1 => ?_)
    · refine r_iload_n dX9_sumBelow_27 rfl ?_
      refine r_iret dX9_sumBelow_28 rfl rfl ?_
      exact ⟨_, rfl, by rw [f_X9_sumBelow_17_L4, if_pos c1] at hK; exact hK⟩
    · refine r_iload_n dX9_sumBelow_9 rfl ?_
      refine r_aload_n dX9_sumBelow_10 rfl ?_
      refine x_alen (t0 := 0) (x := (10 : Int32)) hE rfl rfl dX9_sumBelow_11 (Nat.le_of_ble_eq_true rfl) rfl ?_
      refine r_icmp_ge (tgt := 27) dX9_sumBelow_12 (by decide) (fun c2 => ?_) (fun c2 => ?_)
      · refine r_iload_n dX9_sumBelow_27 rfl ?_
        refine r_iret dX9_sumBelow_28 rfl rfl ?_
        exact ⟨_, rfl, by rw [f_X9_sumBelow_17_L4, if_neg c1, if_pos c2] at hK; exact hK⟩
      · refine r_iload_n dX9_sumBelow_15 rfl ?_
        refine r_aload_n dX9_sumBelow_16 rfl ?_
        refine r_iload_n dX9_sumBelow_17 rfl ?_
        refine x_ialdV (c := 17) (i := 0) (N := 10) (x := (σ.2 17 0 (Int32.toNatClampNeg l3))) hE (fun _ _ => rfl) dX9_sumBelow_18 (Nat.le_of_ble_eq_true rfl) (by exact (Ct.up (by decide) ct10 i0 (by with_reducible assumption)).1) rfl ?_
        refine r_iadd dX9_sumBelow_19 ?_
        refine r_istore_n dX9_sumBelow_20 (by decide) ?_
        refine r_iinc2 (w := (1 : Int32)) dX9_sumBelow_21 rfl (by decide) (by decide) ?_
        refine r_goto (tgt := 4) dX9_sumBelow_24 (by decide) ?_
        refine r_loc (L' := [(0, .ref (am 17 0)), (1, .int l1), (2, .int (l2 + (σ.2 17 0 (Int32.toNatClampNeg l3)))), (3, .int (l3 + (1 : Int32)))]) [2, 3, 1, 0] rfl ?_
        exact ih σ  l1 (l2 + (σ.2 17 0 (Int32.toNatClampNeg l3))) (l3 + (1 : Int32)) (by exact (Ct.up (by decide) ct10 i0 (by with_reducible assumption)).2.1) (by have u := (Ct.up (by decide) ct10 i0 (by with_reducible assumption)).2.2; omega) (by rw [f_X9_sumBelow_17_L4, if_neg c1, if_neg c2] at hK; exact hK)
def f_X9_sumBelow_17 (S : XSh) (σ : XSt) (p2 : Int32) : Int32 := (f_X9_sumBelow_17_L4 (12) S σ p2 (0 : Int32) (0 : Int32))
set_option maxRecDepth 100000 in
set_option maxHeartbeats 1000000 in
theorem ok_X9_sumBelow_17 {g : GC} {B : hH} {am : XAd} {S : XSh} {d : Nat} (hE : XOk am S) (hX : GX g) (hd : 0 ≤ d) (σ : XSt) (p2 : Int32)  : XC g B am S d yX9_sumBelow cX9_sumBelow 4 (some FieldType.int) [.ref (am 17 0), .int p2] (fun v σ' => v = some (.int (f_X9_sumBelow_17 S σ p2)) ∧ σ' = σ) σ := by
  refine AM.of2 (own := RX9) (nm := "sumBelow") (L0 := [(0, .ref (am 17 0)), (1, .int p2)]) (by decide) rfl rfl (Nat.le_of_ble_eq_true rfl) rfl ?_
  refine r_iconst (v := (0 : Int32)) dX9_sumBelow_0 (by decide) ?_
  refine r_istore_n dX9_sumBelow_1 (by decide) ?_
  refine r_iconst (v := (0 : Int32)) dX9_sumBelow_2 (by decide) ?_
  refine r_istore_n dX9_sumBelow_3 (by decide) ?_
  refine r_loc (L' := [(0, .ref (am 17 0)), (1, .int p2), (2, .int (0 : Int32)), (3, .int (0 : Int32))]) [2, 3, 1, 0] rfl ?_
  exact lp_X9_sumBelow_17_4 hE hX (by omega) (12) σ p2 (0 : Int32) (0 : Int32) (by exact Ct.zero _) (by omega) ⟨by rw [f_X9_sumBelow_17], rfl⟩

def f_X9_sumBelow_18_L4 : Nat → XSh → XSt → Int32 → Int32 → Int32 → Int32
  | 0, _, _, _, _, _ => 0
  | n + 1, S, σ, l1, l2, l3 => (if l1 ≤ l3 then l2 else (if (10 : Int32) ≤ l3 then l2 else (f_X9_sumBelow_18_L4 n S σ l1 (l2 + (σ.2 18 0 (Int32.toNatClampNeg l3))) (l3 + (1 : Int32)))))
set_option maxRecDepth 100000 in
set_option maxHeartbeats 1000000 in
theorem lp_X9_sumBelow_18_4 {g : GC} {B : hH} {am : XAd} {S : XSh} {d : Nat} {K : Option Value → XSt → Prop} (hE : XOk am S) (hX : GX g) (hd : 0 ≤ d) : ∀ (fuel : Nat) (σ : XSt) (l1 : Int32) (l2 : Int32) (l3 : Int32), Ct l3 10 → 11 - l3.toNatClampNeg < fuel → K (some (.int (f_X9_sumBelow_18_L4 fuel S σ l1 l2 l3))) σ → XW g B am S RX9 cX9_sumBelow 4 (some FieldType.int) "sumBelow" d K 4 [(0, .ref (am 18 0)), (1, .int l1), (2, .int l2), (3, .int l3)] [] σ := by
  intro fuel
  induction fuel with
  | zero => intro σ l1 l2 l3 i0 hm hK; exact absurd hm (Nat.not_lt_zero _)
  | succ n ih =>
    intro σ l1 l2 l3 i0 hm hK
    refine r_iload_n dX9_sumBelow_4 rfl ?_
    refine r_iload_n dX9_sumBelow_5 rfl ?_
    refine r_icmp_ge (tgt := 27) dX9_sumBelow_6 (by decide) (fun c1 => ?_) (fun c1 => ?_)
    · refine r_iload_n dX9_sumBelow_27 rfl ?_
      refine r_iret dX9_sumBelow_28 rfl rfl ?_
      exact ⟨_, rfl, by rw [f_X9_sumBelow_18_L4, if_pos c1] at hK; exact hK⟩
    · refine r_iload_n dX9_sumBelow_9 rfl ?_
      refine r_aload_n dX9_sumBelow_10 rfl ?_
      refine x_alen (t0 := 0) (x := (10 : Int32)) hE rfl rfl dX9_sumBelow_11 (Nat.le_of_ble_eq_true rfl) rfl ?_
      refine r_icmp_ge (tgt := 27) dX9_sumBelow_12 (by decide) (fun c2 => ?_) (fun c2 => ?_)
      · refine r_iload_n dX9_sumBelow_27 rfl ?_
        refine r_iret dX9_sumBelow_28 rfl rfl ?_
        exact ⟨_, rfl, by rw [f_X9_sumBelow_18_L4, if_neg c1, if_pos c2] at hK; exact hK⟩
      · refine r_iload_n dX9_sumBelow_15 rfl ?_
        refine r_aload_n dX9_sumBelow_16 rfl ?_
        refine r_iload_n dX9_sumBelow_17 rfl ?_
        refine x_ialdV (c := 18) (i := 0) (N := 10) (x := (σ.2 18 0 (Int32.toNatClampNeg l3))) hE (fun _ _ => rfl) dX9_sumBelow_18 (Nat.le_of_ble_eq_true rfl) (by exact (Ct.up (by decide) ct10 i0 (by with_reducible assumption)).1) rfl ?_
        refine r_iadd dX9_sumBelow_19 ?_
        refine r_istore_n dX9_sumBelow_20 (by decide) ?_
        refine r_iinc2 (w := (1 : Int32)) dX9_sumBelow_21 rfl (by decide) (by decide) ?_
        refine r_goto (tgt := 4) dX9_sumBelow_24 (by decide) ?_
        refine r_loc (L' := [(0, .ref (am 18 0)), (1, .int l1), (2, .int (l2 + (σ.2 18 0 (Int32.toNatClampNeg l3)))), (3, .int (l3 + (1 : Int32)))]) [2, 3, 1, 0] rfl ?_
        exact ih σ  l1 (l2 + (σ.2 18 0 (Int32.toNatClampNeg l3))) (l3 + (1 : Int32)) (by exact (Ct.up (by decide) ct10 i0 (by with_reducible assumption)).2.1) (by have u := (Ct.up (by decide) ct10 i0 (by with_reducible assumption)).2.2; omega) (by rw [f_X9_sumBelow_18_L4, if_neg c1, if_neg c2] at hK; exact hK)
def f_X9_sumBelow_18 (S : XSh) (σ : XSt) (p2 : Int32) : Int32 := (f_X9_sumBelow_18_L4 (12) S σ p2 (0 : Int32) (0 : Int32))
set_option maxRecDepth 100000 in
set_option maxHeartbeats 1000000 in
theorem ok_X9_sumBelow_18 {g : GC} {B : hH} {am : XAd} {S : XSh} {d : Nat} (hE : XOk am S) (hX : GX g) (hd : 0 ≤ d) (σ : XSt) (p2 : Int32)  : XC g B am S d yX9_sumBelow cX9_sumBelow 4 (some FieldType.int) [.ref (am 18 0), .int p2] (fun v σ' => v = some (.int (f_X9_sumBelow_18 S σ p2)) ∧ σ' = σ) σ := by
  refine AM.of2 (own := RX9) (nm := "sumBelow") (L0 := [(0, .ref (am 18 0)), (1, .int p2)]) (by decide) rfl rfl (Nat.le_of_ble_eq_true rfl) rfl ?_
  refine r_iconst (v := (0 : Int32)) dX9_sumBelow_0 (by decide) ?_
  refine r_istore_n dX9_sumBelow_1 (by decide) ?_
  refine r_iconst (v := (0 : Int32)) dX9_sumBelow_2 (by decide) ?_
  refine r_istore_n dX9_sumBelow_3 (by decide) ?_
  refine r_loc (L' := [(0, .ref (am 18 0)), (1, .int p2), (2, .int (0 : Int32)), (3, .int (0 : Int32))]) [2, 3, 1, 0] rfl ?_
  exact lp_X9_sumBelow_18_4 hE hX (by omega) (12) σ p2 (0 : Int32) (0 : Int32) (by exact Ct.zero _) (by omega) ⟨by rw [f_X9_sumBelow_18], rfl⟩

def f_X9_far_L6 : Nat → XSh → XSt → Nat → Nat → Int32 → Nat → Int32 → Int32 → Int32
  | 0, _, _, _, _, _, _, _, _ => 0
  | n + 1, S, σ, l0, l1, l2, l3, l4, l5 => (if (3 : Int32) ≤ l5 then l4 else (f_X9_far_L6 n S σ l0 l1 l2 l3 (l4 + (if 0 ≤ ((((l2 * (f_X8_taste S σ l0 l5)) + (((10 : Int32) - l2) * (f_X8_taste S σ l1 l5))) / (10 : Int32)) - (f_X8_taste S σ l3 l5)) then ((((l2 * (f_X8_taste S σ l0 l5)) + (((10 : Int32) - l2) * (f_X8_taste S σ l1 l5))) / (10 : Int32)) - (f_X8_taste S σ l3 l5)) else 0 - ((((l2 * (f_X8_taste S σ l0 l5)) + (((10 : Int32) - l2) * (f_X8_taste S σ l1 l5))) / (10 : Int32)) - (f_X8_taste S σ l3 l5)))) (l5 + (1 : Int32))))
set_option maxRecDepth 100000 in
set_option maxHeartbeats 1000000 in
theorem lp_X9_far_6 {g : GC} {B : hH} {am : XAd} {S : XSh} {d : Nat} {K : Option Value → XSt → Prop} (hE : XOk am S) (hX : GX g) (hd : 1 ≤ d) : ∀ (fuel : Nat) (σ : XSt) (l0 : Nat) (l1 : Nat) (l2 : Int32) (l3 : Nat) (l4 : Int32) (l5 : Int32), l0 < lim S 8 → l1 < lim S 8 → l3 < lim S 8 → Ct l5 3 → 4 - l5.toNatClampNeg < fuel → K (some (.int (f_X9_far_L6 fuel S σ l0 l1 l2 l3 l4 l5))) σ → XW g B am S RX9 cX9_far 7 (some FieldType.int) "far" d K 6 [(0, .ref (am 8 l0)), (1, .ref (am 8 l1)), (2, .int l2), (3, .ref (am 8 l3)), (4, .int l4), (5, .int l5)] [] σ := by
  intro fuel
  induction fuel with
  | zero => intro σ l0 l1 l2 l3 l4 l5 i0 i1 i2 i3 hm hK; exact absurd hm (Nat.not_lt_zero _)
  | succ n ih =>
    intro σ l0 l1 l2 l3 l4 l5 i0 i1 i2 i3 hm hK
    refine r_iload dX9_far_6 rfl ?_
    refine r_iconst (v := (3 : Int32)) dX9_far_8 (by decide) ?_
    refine r_icmp_ge (tgt := 60) dX9_far_9 (by decide) (fun c1 => ?_) (fun c1 => ?_)
    · refine r_iload dX9_far_60 rfl ?_
      refine r_iret dX9_far_62 rfl rfl ?_
      exact ⟨_, rfl, by rw [f_X9_far_L6, if_pos c1] at hK; exact hK⟩
    · refine r_iload_n dX9_far_12 rfl ?_
      refine r_aload_n dX9_far_13 rfl ?_
      refine r_iload dX9_far_14 rfl ?_
      refine x_callW (c := 8) (i := l0) hE (fun _ _ => rfl) (by first | with_reducible assumption | exact i0 | exact i1 | exact i2) dX9_far_16 mf_X8_taste ml_RX9_399 (ok_X8_taste (d := d - 1) hE hX (by omega) _ _ _ (by first | with_reducible assumption | exact i0 | exact i1 | exact i2)) rfl rfl rfl rfl (Nat.le_of_ble_eq_true rfl) (by omega) ?_
      refine r_imul dX9_far_19 ?_
      refine r_bipush (v := (10 : Int32)) dX9_far_20 (by decide) ?_
      refine r_iload_n dX9_far_22 rfl ?_
      refine r_isub dX9_far_23 ?_
      refine r_aload_n dX9_far_24 rfl ?_
      refine r_iload dX9_far_25 rfl ?_
      refine x_callW (c := 8) (i := l1) hE (fun _ _ => rfl) (by first | with_reducible assumption | exact i0 | exact i1 | exact i2) dX9_far_27 mf_X8_taste ml_RX9_399 (ok_X8_taste (d := d - 1) hE hX (by omega) _ _ _ (by first | with_reducible assumption | exact i0 | exact i1 | exact i2)) rfl rfl rfl rfl (Nat.le_of_ble_eq_true rfl) (by omega) ?_
      refine r_imul dX9_far_30 ?_
      refine r_iadd dX9_far_31 ?_
      refine r_bipush (v := (10 : Int32)) dX9_far_32 (by decide) ?_
      refine r_idiv dX9_far_34 (by decide) ?_
      refine r_istore dX9_far_35 (by decide) ?_
      refine r_iload dX9_far_37 rfl ?_
      refine r_iload dX9_far_39 rfl ?_
      refine r_aload_n dX9_far_41 rfl ?_
      refine r_iload dX9_far_42 rfl ?_
      refine x_callW (c := 8) (i := l3) hE (fun _ _ => rfl) (by first | with_reducible assumption | exact i0 | exact i1 | exact i2) dX9_far_44 mf_X8_taste ml_RX9_399 (ok_X8_taste (d := d - 1) hE hX (by omega) _ _ _ (by first | with_reducible assumption | exact i0 | exact i1 | exact i2)) rfl rfl rfl rfl (Nat.le_of_ble_eq_true rfl) (by omega) ?_
      refine r_isub dX9_far_47 ?_
      refine r_mabs dX9_far_48 ml_RX9_402 (Nat.le_of_ble_eq_true rfl) (by omega) ?_
      refine r_iadd dX9_far_51 ?_
      refine r_istore dX9_far_52 (by decide) ?_
      refine r_iinc2 (w := (1 : Int32)) dX9_far_54 rfl (by decide) (by decide) ?_
      refine r_goto (tgt := 6) dX9_far_57 (by decide) ?_
      refine r_loc (L' := [(0, .ref (am 8 l0)), (1, .ref (am 8 l1)), (2, .int l2), (3, .ref (am 8 l3)), (4, .int (l4 + (if 0 ≤ ((((l2 * (f_X8_taste S σ l0 l5)) + (((10 : Int32) - l2) * (f_X8_taste S σ l1 l5))) / (10 : Int32)) - (f_X8_taste S σ l3 l5)) then ((((l2 * (f_X8_taste S σ l0 l5)) + (((10 : Int32) - l2) * (f_X8_taste S σ l1 l5))) / (10 : Int32)) - (f_X8_taste S σ l3 l5)) else 0 - ((((l2 * (f_X8_taste S σ l0 l5)) + (((10 : Int32) - l2) * (f_X8_taste S σ l1 l5))) / (10 : Int32)) - (f_X8_taste S σ l3 l5))))), (5, .int (l5 + (1 : Int32)))]) [3, 4, 5, 6, 1, 0] rfl ?_
      exact ih σ  l0 l1 l2 l3 (l4 + (if 0 ≤ ((((l2 * (f_X8_taste S σ l0 l5)) + (((10 : Int32) - l2) * (f_X8_taste S σ l1 l5))) / (10 : Int32)) - (f_X8_taste S σ l3 l5)) then ((((l2 * (f_X8_taste S σ l0 l5)) + (((10 : Int32) - l2) * (f_X8_taste S σ l1 l5))) / (10 : Int32)) - (f_X8_taste S σ l3 l5)) else 0 - ((((l2 * (f_X8_taste S σ l0 l5)) + (((10 : Int32) - l2) * (f_X8_taste S σ l1 l5))) / (10 : Int32)) - (f_X8_taste S σ l3 l5)))) (l5 + (1 : Int32)) (by exact i0) (by exact i1) (by exact i2) (by exact (Ct.up (by decide) ct3 i3 (by with_reducible assumption)).2.1) (by have u := (Ct.up (by decide) ct3 i3 (by with_reducible assumption)).2.2; omega) (by rw [f_X9_far_L6, if_neg c1] at hK; exact hK)
def f_X9_far (S : XSh) (σ : XSt) (p1 : Nat) (p2 : Nat) (p3 : Int32) (p4 : Nat) : Int32 := (f_X9_far_L6 (5) S σ p1 p2 p3 p4 (0 : Int32) (0 : Int32))
set_option maxRecDepth 100000 in
set_option maxHeartbeats 1000000 in
theorem ok_X9_far {g : GC} {B : hH} {am : XAd} {S : XSh} {d : Nat} (hE : XOk am S) (hX : GX g) (hd : 1 ≤ d) (σ : XSt) (p1 : Nat) (p2 : Nat) (p3 : Int32) (p4 : Nat) (hp1 : p1 < lim S 8) (hp2 : p2 < lim S 8) (hp4 : p4 < lim S 8) : XC g B am S d yX9_far cX9_far 7 (some FieldType.int) [.ref (am 8 p1), .ref (am 8 p2), .int p3, .ref (am 8 p4)] (fun v σ' => v = some (.int (f_X9_far S σ p1 p2 p3 p4)) ∧ σ' = σ) σ := by
  refine AM.of2 (own := RX9) (nm := "far") (L0 := [(0, .ref (am 8 p1)), (1, .ref (am 8 p2)), (2, .int p3), (3, .ref (am 8 p4))]) (by decide) rfl rfl (Nat.le_of_ble_eq_true rfl) rfl ?_
  refine r_iconst (v := (0 : Int32)) dX9_far_0 (by decide) ?_
  refine r_istore dX9_far_1 (by decide) ?_
  refine r_iconst (v := (0 : Int32)) dX9_far_3 (by decide) ?_
  refine r_istore dX9_far_4 (by decide) ?_
  refine r_loc (L' := [(0, .ref (am 8 p1)), (1, .ref (am 8 p2)), (2, .int p3), (3, .ref (am 8 p4)), (4, .int (0 : Int32)), (5, .int (0 : Int32))]) [2, 3, 4, 5, 1, 0] rfl ?_
  exact lp_X9_far_6 hE hX (by omega) (5) σ p1 p2 p3 p4 (0 : Int32) (0 : Int32) (by exact hp1) (by exact hp2) (by exact hp4) (by exact Ct.zero _) (by omega) ⟨by rw [f_X9_far], rfl⟩

def f_X9_learnNames (S : XSh) (σ : XSt) (p1 : Nat) : XSt := (xa (xa (xa (xa (xa (xa σ 15 0 (Int32.toNatClampNeg (0 : Int32)) (f_J6_bitCount_0f7a4 (f_X9_barBits S σ p1))) 15 0 (Int32.toNatClampNeg (1 : Int32)) (f_J6_bitCount_0f7a4 (f_X9_oddBits S (xa σ 15 0 (Int32.toNatClampNeg (0 : Int32)) (f_J6_bitCount_0f7a4 (f_X9_barBits S σ p1))) p1))) 15 0 (Int32.toNatClampNeg (2 : Int32)) (σ.1 1 p1 6)) 15 0 (Int32.toNatClampNeg (3 : Int32)) (σ.1 8 (S 1 p1) 1)) 15 0 (Int32.toNatClampNeg (4 : Int32)) (σ.1 8 (S 1 p1) 2)) 15 0 (Int32.toNatClampNeg (5 : Int32)) (f_X9_soldOf S (xa (xa (xa (xa (xa σ 15 0 (Int32.toNatClampNeg (0 : Int32)) (f_J6_bitCount_0f7a4 (f_X9_barBits S σ p1))) 15 0 (Int32.toNatClampNeg (1 : Int32)) (f_J6_bitCount_0f7a4 (f_X9_oddBits S (xa σ 15 0 (Int32.toNatClampNeg (0 : Int32)) (f_J6_bitCount_0f7a4 (f_X9_barBits S σ p1))) p1))) 15 0 (Int32.toNatClampNeg (2 : Int32)) (σ.1 1 p1 6)) 15 0 (Int32.toNatClampNeg (3 : Int32)) (σ.1 8 (S 1 p1) 1)) 15 0 (Int32.toNatClampNeg (4 : Int32)) (σ.1 8 (S 1 p1) 2)) (σ.1 8 (S 1 p1) 0)))
set_option maxRecDepth 100000 in
set_option maxHeartbeats 1000000 in
theorem ok_X9_learnNames {g : GC} {B : hH} {am : XAd} {S : XSh} {d : Nat} (hE : XOk am S) (hX : GX g) (hd : 3 ≤ d) (σ : XSt) (p1 : Nat) (hp1 : p1 < lim S 1) (h0 : XInv S σ) : XC g B am S d yX9_learnNames cX9_learnNames 2 none [.ref (am 9 0), .ref (am 1 p1)] (fun v σ' => v = none ∧ σ' = (f_X9_learnNames S σ p1)) σ := by
  refine AM.of2 (own := RX9) (nm := "learnNames") (L0 := [(0, .ref (am 9 0)), (1, .ref (am 1 p1))]) (by decide) rfl rfl (Nat.le_of_ble_eq_true rfl) rfl ?_
  refine r_aload_n dX9_learnNames_0 rfl ?_
  refine x_get (c := 9) hE (fun _ _ => rfl) dX9_learnNames_1 fl_RX9_67 (Nat.le_of_ble_eq_true rfl) rfl ?_
  refine r_iconst (v := (0 : Int32)) dX9_learnNames_4 (by decide) ?_
  refine r_aload_n dX9_learnNames_5 rfl ?_
  refine r_aload_n dX9_learnNames_6 rfl ?_
  refine x_callW (c := 9) (i := 0) hE (fun _ _ => rfl) (Nat.le_of_ble_eq_true rfl) dX9_learnNames_7 mf_X9_barBits ml_RX9_162 (ok_X9_barBits (d := d - 1) hE hX (by omega) _ _ (by first | with_reducible assumption | exact h0.lab hp1) (by (repeat first | with_reducible assumption | refine XInv.xa ?_ (by decide)))) rfl rfl rfl rfl (Nat.le_of_ble_eq_true rfl) (by omega) ?_
  refine r_callS0 dX9_learnNames_10 mf_J6_bitCount_0f7a4 ml_RX9_392 (ok_J6_bitCount_0f7a4 (d := d - 1) (by omega) _) rfl rfl (Nat.le_of_ble_eq_true rfl) (by omega) ?_
  refine x_iast (c := 15) (i := 0) (N := 6) hE (fun _ _ => rfl) dX9_learnNames_13 (Nat.le_of_ble_eq_true rfl) (by unfold vp_in; decide) ?_
  refine r_aload_n dX9_learnNames_14 rfl ?_
  refine x_get (c := 9) hE (fun _ _ => rfl) dX9_learnNames_15 fl_RX9_67 (Nat.le_of_ble_eq_true rfl) rfl ?_
  refine r_iconst (v := (1 : Int32)) dX9_learnNames_18 (by decide) ?_
  refine r_aload_n dX9_learnNames_19 rfl ?_
  refine r_aload_n dX9_learnNames_20 rfl ?_
  refine x_callW (c := 9) (i := 0) hE (fun _ _ => rfl) (Nat.le_of_ble_eq_true rfl) dX9_learnNames_21 mf_X9_oddBits ml_RX9_166 (ok_X9_oddBits (d := d - 1) hE hX (by omega) _ _ (by first | with_reducible assumption | exact h0.lab hp1) (by (repeat first | with_reducible assumption | refine XInv.xa ?_ (by decide)))) rfl rfl rfl rfl (Nat.le_of_ble_eq_true rfl) (by omega) ?_
  refine r_callS0 dX9_learnNames_24 mf_J6_bitCount_0f7a4 ml_RX9_392 (ok_J6_bitCount_0f7a4 (d := d - 1) (by omega) _) rfl rfl (Nat.le_of_ble_eq_true rfl) (by omega) ?_
  refine x_iast (c := 15) (i := 0) (N := 6) hE (fun _ _ => rfl) dX9_learnNames_27 (Nat.le_of_ble_eq_true rfl) (by unfold vp_in; decide) ?_
  refine r_aload_n dX9_learnNames_28 rfl ?_
  refine x_get (c := 9) hE (fun _ _ => rfl) dX9_learnNames_29 fl_RX9_67 (Nat.le_of_ble_eq_true rfl) rfl ?_
  refine r_iconst (v := (2 : Int32)) dX9_learnNames_32 (by decide) ?_
  refine r_aload_n dX9_learnNames_33 rfl ?_
  refine x_getI (c := 1) (x := (σ.1 1 p1 6)) hE (fun _ _ => rfl) (fun _ => rfl) dX9_learnNames_34 fl_RX9_173 (by first | with_reducible assumption | exact h0.lab hp1) (Eq.trans xa_f (Eq.trans xa_f rfl)) ?_
  refine x_iast (c := 15) (i := 0) (N := 6) hE (fun _ _ => rfl) dX9_learnNames_37 (Nat.le_of_ble_eq_true rfl) (by unfold vp_in; decide) ?_
  refine r_aload_n dX9_learnNames_38 rfl ?_
  refine x_get (c := 9) hE (fun _ _ => rfl) dX9_learnNames_39 fl_RX9_67 (Nat.le_of_ble_eq_true rfl) rfl ?_
  refine r_iconst (v := (3 : Int32)) dX9_learnNames_42 (by decide) ?_
  refine r_aload_n dX9_learnNames_43 rfl ?_
  refine x_get (c := 1) hE (fun _ _ => rfl) dX9_learnNames_44 fl_RX9_155 (by first | with_reducible assumption | exact h0.lab hp1) rfl ?_
  refine x_getI (c := 8) (x := (σ.1 8 (S 1 p1) 1)) hE (fun _ _ => rfl) (fun _ => rfl) dX9_learnNames_47 fl_RX9_397 (by first | with_reducible assumption | exact h0.lab hp1) (Eq.trans xa_f (Eq.trans xa_f (Eq.trans xa_f rfl))) ?_
  refine x_iast (c := 15) (i := 0) (N := 6) hE (fun _ _ => rfl) dX9_learnNames_50 (Nat.le_of_ble_eq_true rfl) (by unfold vp_in; decide) ?_
  refine r_aload_n dX9_learnNames_51 rfl ?_
  refine x_get (c := 9) hE (fun _ _ => rfl) dX9_learnNames_52 fl_RX9_67 (Nat.le_of_ble_eq_true rfl) rfl ?_
  refine r_iconst (v := (4 : Int32)) dX9_learnNames_55 (by decide) ?_
  refine r_aload_n dX9_learnNames_56 rfl ?_
  refine x_get (c := 1) hE (fun _ _ => rfl) dX9_learnNames_57 fl_RX9_155 (by first | with_reducible assumption | exact h0.lab hp1) rfl ?_
  refine x_getI (c := 8) (x := (σ.1 8 (S 1 p1) 2)) hE (fun _ _ => rfl) (fun _ => rfl) dX9_learnNames_60 fl_RX9_375 (by first | with_reducible assumption | exact h0.lab hp1) (Eq.trans xa_f (Eq.trans xa_f (Eq.trans xa_f (Eq.trans xa_f rfl)))) ?_
  refine x_iast (c := 15) (i := 0) (N := 6) hE (fun _ _ => rfl) dX9_learnNames_63 (Nat.le_of_ble_eq_true rfl) (by unfold vp_in; decide) ?_
  refine r_aload_n dX9_learnNames_64 rfl ?_
  refine x_get (c := 9) hE (fun _ _ => rfl) dX9_learnNames_65 fl_RX9_67 (Nat.le_of_ble_eq_true rfl) rfl ?_
  refine r_iconst (v := (5 : Int32)) dX9_learnNames_68 (by decide) ?_
  refine r_aload_n dX9_learnNames_69 rfl ?_
  refine r_aload_n dX9_learnNames_70 rfl ?_
  refine x_get (c := 1) hE (fun _ _ => rfl) dX9_learnNames_71 fl_RX9_155 (by first | with_reducible assumption | exact h0.lab hp1) rfl ?_
  refine x_getI (c := 8) (x := (σ.1 8 (S 1 p1) 0)) hE (fun _ _ => rfl) (fun _ => rfl) dX9_learnNames_74 fl_RX9_159 (by first | with_reducible assumption | exact h0.lab hp1) (Eq.trans xa_f (Eq.trans xa_f (Eq.trans xa_f (Eq.trans xa_f (Eq.trans xa_f rfl))))) ?_
  refine x_callW (c := 9) (i := 0) hE (fun _ _ => rfl) (Nat.le_of_ble_eq_true rfl) dX9_learnNames_77 mf_X9_soldOf ml_RX9_219 (ok_X9_soldOf (d := d - 1) hE hX (by omega) _ _ (by (repeat first | with_reducible assumption | refine XInv.xa ?_ (by decide)))) rfl rfl rfl rfl (Nat.le_of_ble_eq_true rfl) (by omega) ?_
  refine x_iast (c := 15) (i := 0) (N := 6) hE (fun _ _ => rfl) dX9_learnNames_80 (Nat.le_of_ble_eq_true rfl) (by unfold vp_in; decide) ?_
  refine r_vret dX9_learnNames_81 rfl ?_
  exact ⟨_, rfl, by rfl, by rw [f_X9_learnNames]⟩

def f_X9_judged (S : XSh) (σ : XSt) (p1 : Nat) (p2 : Int32) : Int32 × XSt := (if (f_X9_isBelow (σ.1 9 0 6) (σ.1 9 0 5)) = 0 then (if p2 = (2 : Int32) then (if p2 = 0 then ((if (1 : Int32) < (if (0 : Int32) < (99 : Int32) then (0 : Int32) else (99 : Int32)) then (if (0 : Int32) < (99 : Int32) then (0 : Int32) else (99 : Int32)) else (1 : Int32)), σ) else (if p2 = (1 : Int32) then ((if (1 : Int32) < (if (0 : Int32) < (9999 : Int32) then (0 : Int32) else (9999 : Int32)) then (if (0 : Int32) < (9999 : Int32) then (0 : Int32) else (9999 : Int32)) else (1 : Int32)), σ) else ((if (1 : Int32) < (if (0 : Int32) < (999 : Int32) then (0 : Int32) else (999 : Int32)) then (if (0 : Int32) < (999 : Int32) then (0 : Int32) else (999 : Int32)) else (1 : Int32)), σ))) else (if p2 = 0 then ((if (0 : Int32) < (if (0 : Int32) < (99 : Int32) then (0 : Int32) else (99 : Int32)) then (if (0 : Int32) < (99 : Int32) then (0 : Int32) else (99 : Int32)) else (0 : Int32)), σ) else (if p2 = (1 : Int32) then ((if (0 : Int32) < (if (0 : Int32) < (9999 : Int32) then (0 : Int32) else (9999 : Int32)) then (if (0 : Int32) < (9999 : Int32) then (0 : Int32) else (9999 : Int32)) else (0 : Int32)), σ) else ((if (0 : Int32) < (if (0 : Int32) < (999 : Int32) then (0 : Int32) else (999 : Int32)) then (if (0 : Int32) < (999 : Int32) then (0 : Int32) else (999 : Int32)) else (0 : Int32)), σ)))) else (if (6 : Int32) ≤ (σ.1 9 0 6) then (if p2 = (2 : Int32) then (if p2 = 0 then ((if (1 : Int32) < (if (0 : Int32) < (99 : Int32) then (0 : Int32) else (99 : Int32)) then (if (0 : Int32) < (99 : Int32) then (0 : Int32) else (99 : Int32)) else (1 : Int32)), σ) else (if p2 = (1 : Int32) then ((if (1 : Int32) < (if (0 : Int32) < (9999 : Int32) then (0 : Int32) else (9999 : Int32)) then (if (0 : Int32) < (9999 : Int32) then (0 : Int32) else (9999 : Int32)) else (1 : Int32)), σ) else ((if (1 : Int32) < (if (0 : Int32) < (999 : Int32) then (0 : Int32) else (999 : Int32)) then (if (0 : Int32) < (999 : Int32) then (0 : Int32) else (999 : Int32)) else (1 : Int32)), σ))) else (if p2 = 0 then ((if (0 : Int32) < (if (0 : Int32) < (99 : Int32) then (0 : Int32) else (99 : Int32)) then (if (0 : Int32) < (99 : Int32) then (0 : Int32) else (99 : Int32)) else (0 : Int32)), σ) else (if p2 = (1 : Int32) then ((if (0 : Int32) < (if (0 : Int32) < (9999 : Int32) then (0 : Int32) else (9999 : Int32)) then (if (0 : Int32) < (9999 : Int32) then (0 : Int32) else (9999 : Int32)) else (0 : Int32)), σ) else ((if (0 : Int32) < (if (0 : Int32) < (999 : Int32) then (0 : Int32) else (999 : Int32)) then (if (0 : Int32) < (999 : Int32) then (0 : Int32) else (999 : Int32)) else (0 : Int32)), σ)))) else (if p2 = (2 : Int32) then (if p2 = 0 then ((if (1 : Int32) < (if (f_X5_valueOf S (f_X9_learnNames S σ p1) (Int32.toNatClampNeg (σ.1 9 0 6)) p2).1 < (99 : Int32) then (f_X5_valueOf S (f_X9_learnNames S σ p1) (Int32.toNatClampNeg (σ.1 9 0 6)) p2).1 else (99 : Int32)) then (if (f_X5_valueOf S (f_X9_learnNames S σ p1) (Int32.toNatClampNeg (σ.1 9 0 6)) p2).1 < (99 : Int32) then (f_X5_valueOf S (f_X9_learnNames S σ p1) (Int32.toNatClampNeg (σ.1 9 0 6)) p2).1 else (99 : Int32)) else (1 : Int32)), (f_X5_valueOf S (f_X9_learnNames S σ p1) (Int32.toNatClampNeg (σ.1 9 0 6)) p2).2) else (if p2 = (1 : Int32) then ((if (1 : Int32) < (if (f_X5_valueOf S (f_X9_learnNames S σ p1) (Int32.toNatClampNeg (σ.1 9 0 6)) p2).1 < (9999 : Int32) then (f_X5_valueOf S (f_X9_learnNames S σ p1) (Int32.toNatClampNeg (σ.1 9 0 6)) p2).1 else (9999 : Int32)) then (if (f_X5_valueOf S (f_X9_learnNames S σ p1) (Int32.toNatClampNeg (σ.1 9 0 6)) p2).1 < (9999 : Int32) then (f_X5_valueOf S (f_X9_learnNames S σ p1) (Int32.toNatClampNeg (σ.1 9 0 6)) p2).1 else (9999 : Int32)) else (1 : Int32)), (f_X5_valueOf S (f_X9_learnNames S σ p1) (Int32.toNatClampNeg (σ.1 9 0 6)) p2).2) else ((if (1 : Int32) < (if (f_X5_valueOf S (f_X9_learnNames S σ p1) (Int32.toNatClampNeg (σ.1 9 0 6)) p2).1 < (999 : Int32) then (f_X5_valueOf S (f_X9_learnNames S σ p1) (Int32.toNatClampNeg (σ.1 9 0 6)) p2).1 else (999 : Int32)) then (if (f_X5_valueOf S (f_X9_learnNames S σ p1) (Int32.toNatClampNeg (σ.1 9 0 6)) p2).1 < (999 : Int32) then (f_X5_valueOf S (f_X9_learnNames S σ p1) (Int32.toNatClampNeg (σ.1 9 0 6)) p2).1 else (999 : Int32)) else (1 : Int32)), (f_X5_valueOf S (f_X9_learnNames S σ p1) (Int32.toNatClampNeg (σ.1 9 0 6)) p2).2))) else (if p2 = 0 then ((if (0 : Int32) < (if (f_X5_valueOf S (f_X9_learnNames S σ p1) (Int32.toNatClampNeg (σ.1 9 0 6)) p2).1 < (99 : Int32) then (f_X5_valueOf S (f_X9_learnNames S σ p1) (Int32.toNatClampNeg (σ.1 9 0 6)) p2).1 else (99 : Int32)) then (if (f_X5_valueOf S (f_X9_learnNames S σ p1) (Int32.toNatClampNeg (σ.1 9 0 6)) p2).1 < (99 : Int32) then (f_X5_valueOf S (f_X9_learnNames S σ p1) (Int32.toNatClampNeg (σ.1 9 0 6)) p2).1 else (99 : Int32)) else (0 : Int32)), (f_X5_valueOf S (f_X9_learnNames S σ p1) (Int32.toNatClampNeg (σ.1 9 0 6)) p2).2) else (if p2 = (1 : Int32) then ((if (0 : Int32) < (if (f_X5_valueOf S (f_X9_learnNames S σ p1) (Int32.toNatClampNeg (σ.1 9 0 6)) p2).1 < (9999 : Int32) then (f_X5_valueOf S (f_X9_learnNames S σ p1) (Int32.toNatClampNeg (σ.1 9 0 6)) p2).1 else (9999 : Int32)) then (if (f_X5_valueOf S (f_X9_learnNames S σ p1) (Int32.toNatClampNeg (σ.1 9 0 6)) p2).1 < (9999 : Int32) then (f_X5_valueOf S (f_X9_learnNames S σ p1) (Int32.toNatClampNeg (σ.1 9 0 6)) p2).1 else (9999 : Int32)) else (0 : Int32)), (f_X5_valueOf S (f_X9_learnNames S σ p1) (Int32.toNatClampNeg (σ.1 9 0 6)) p2).2) else ((if (0 : Int32) < (if (f_X5_valueOf S (f_X9_learnNames S σ p1) (Int32.toNatClampNeg (σ.1 9 0 6)) p2).1 < (999 : Int32) then (f_X5_valueOf S (f_X9_learnNames S σ p1) (Int32.toNatClampNeg (σ.1 9 0 6)) p2).1 else (999 : Int32)) then (if (f_X5_valueOf S (f_X9_learnNames S σ p1) (Int32.toNatClampNeg (σ.1 9 0 6)) p2).1 < (999 : Int32) then (f_X5_valueOf S (f_X9_learnNames S σ p1) (Int32.toNatClampNeg (σ.1 9 0 6)) p2).1 else (999 : Int32)) else (0 : Int32)), (f_X5_valueOf S (f_X9_learnNames S σ p1) (Int32.toNatClampNeg (σ.1 9 0 6)) p2).2))))))
set_option maxRecDepth 100000 in
set_option maxHeartbeats 1000000 in
theorem ok_X9_judged {g : GC} {B : hH} {am : XAd} {S : XSh} {d : Nat} (hE : XOk am S) (hX : GX g) (hd : 4 ≤ d) (σ : XSt) (p1 : Nat) (p2 : Int32) (hp1 : p1 < lim S 1) (h0 : XInv S σ) : XC g B am S d yX9_judged cX9_judged 7 (some FieldType.int) [.ref (am 9 0), .ref (am 1 p1), .int p2] (fun v σ' => v = some (.int (f_X9_judged S σ p1 p2).1) ∧ σ' = (f_X9_judged S σ p1 p2).2) σ := by
  refine AM.of2 (own := RX9) (nm := "judged") (L0 := [(0, .ref (am 9 0)), (1, .ref (am 1 p1)), (2, .int p2)]) (by decide) rfl rfl (Nat.le_of_ble_eq_true rfl) rfl ?_
  refine r_aload_n dX9_judged_0 rfl ?_
  refine x_getI (c := 9) (x := (σ.1 9 0 6)) hE (fun _ _ => rfl) (fun _ => rfl) dX9_judged_1 fl_RX9_213 (Nat.le_of_ble_eq_true rfl) rfl ?_
  refine r_aload_n dX9_judged_4 rfl ?_
  refine x_getI (c := 9) (x := (σ.1 9 0 5)) hE (fun _ _ => rfl) (fun _ => rfl) dX9_judged_5 fl_RX9_102 (Nat.le_of_ble_eq_true rfl) rfl ?_
  refine r_callS0 dX9_judged_8 mf_X9_isBelow ml_RX9_136 (ok_X9_isBelow (d := d - 1) (by omega) _ _) rfl rfl (Nat.le_of_ble_eq_true rfl) (by omega) ?_
  refine r_if_eq (tgt := 35) dX9_judged_11 (by decide) (fun c1 => ?_) (fun c1 => ?_)
  · refine r_null dX9_judged_35 ?_
    refine r_astore_nN dX9_judged_36 (by decide) ?_
    refine r_iconst (v := (0 : Int32)) dX9_judged_37 (by decide) ?_
    refine r_istore dX9_judged_38 (by decide) ?_
    refine r_aload_nN dX9_judged_40 rfl ?_
    refine r_ifnullN (tgt := 64) dX9_judged_41 (by decide) ?_
    refine r_iload_n dX9_judged_64 rfl ?_
    refine r_iconst (v := (2 : Int32)) dX9_judged_65 (by decide) ?_
    refine r_icmp_ne (tgt := 73) dX9_judged_66 (by decide) (fun c2 => ?_) (fun c2 => ?_)
    · refine r_iconst (v := (0 : Int32)) dX9_judged_73 (by decide) ?_
      refine r_istore dX9_judged_74 (by decide) ?_
      refine r_iload_n dX9_judged_76 rfl ?_
      refine r_if_ne (tgt := 85) dX9_judged_77 (by decide) (fun c3 => ?_) (fun c3 => ?_)
      · refine r_iload_n dX9_judged_85 rfl ?_
        refine r_iconst (v := (1 : Int32)) dX9_judged_86 (by decide) ?_
        refine r_icmp_ne (tgt := 96) dX9_judged_87 (by decide) (fun c4 => ?_) (fun c4 => ?_)
        · refine r_sipush (v := (999 : Int32)) dX9_judged_96 (by decide) ?_
          refine r_istore dX9_judged_99 (by decide) ?_
          refine r_iload dX9_judged_101 rfl ?_
          refine r_iload dX9_judged_103 rfl ?_
          refine r_iload dX9_judged_105 rfl ?_
          refine r_mmin dX9_judged_107 ml_RX9_389 (Nat.le_of_ble_eq_true rfl) (by omega) ?_
          refine r_mmax dX9_judged_110 ml_RX9_222 (Nat.le_of_ble_eq_true rfl) (by omega) ?_
          refine r_iret dX9_judged_113 rfl rfl ?_
          exact ⟨_, rfl, by rw [f_X9_judged, if_pos c1, if_neg c2, if_neg c3, if_neg c4], by rw [f_X9_judged, if_pos c1, if_neg c2, if_neg c3, if_neg c4]⟩
        · refine r_sipush (v := (9999 : Int32)) dX9_judged_90 (by decide) ?_
          refine r_goto (tgt := 99) dX9_judged_93 (by decide) ?_
          refine r_istore dX9_judged_99 (by decide) ?_
          refine r_iload dX9_judged_101 rfl ?_
          refine r_iload dX9_judged_103 rfl ?_
          refine r_iload dX9_judged_105 rfl ?_
          refine r_mmin dX9_judged_107 ml_RX9_389 (Nat.le_of_ble_eq_true rfl) (by omega) ?_
          refine r_mmax dX9_judged_110 ml_RX9_222 (Nat.le_of_ble_eq_true rfl) (by omega) ?_
          refine r_iret dX9_judged_113 rfl rfl ?_
          exact ⟨_, rfl, by rw [f_X9_judged, if_pos c1, if_neg c2, if_neg c3, if_pos c4], by rw [f_X9_judged, if_pos c1, if_neg c2, if_neg c3, if_pos c4]⟩
      · refine r_bipush (v := (99 : Int32)) dX9_judged_80 (by decide) ?_
        refine r_goto (tgt := 99) dX9_judged_82 (by decide) ?_
        refine r_istore dX9_judged_99 (by decide) ?_
        refine r_iload dX9_judged_101 rfl ?_
        refine r_iload dX9_judged_103 rfl ?_
        refine r_iload dX9_judged_105 rfl ?_
        refine r_mmin dX9_judged_107 ml_RX9_389 (Nat.le_of_ble_eq_true rfl) (by omega) ?_
        refine r_mmax dX9_judged_110 ml_RX9_222 (Nat.le_of_ble_eq_true rfl) (by omega) ?_
        refine r_iret dX9_judged_113 rfl rfl ?_
        exact ⟨_, rfl, by rw [f_X9_judged, if_pos c1, if_neg c2, if_pos c3], by rw [f_X9_judged, if_pos c1, if_neg c2, if_pos c3]⟩
    · refine r_iconst (v := (1 : Int32)) dX9_judged_69 (by decide) ?_
      refine r_goto (tgt := 74) dX9_judged_70 (by decide) ?_
      refine r_istore dX9_judged_74 (by decide) ?_
      refine r_iload_n dX9_judged_76 rfl ?_
      refine r_if_ne (tgt := 85) dX9_judged_77 (by decide) (fun c5 => ?_) (fun c5 => ?_)
      · refine r_iload_n dX9_judged_85 rfl ?_
        refine r_iconst (v := (1 : Int32)) dX9_judged_86 (by decide) ?_
        refine r_icmp_ne (tgt := 96) dX9_judged_87 (by decide) (fun c6 => ?_) (fun c6 => ?_)
        · refine r_sipush (v := (999 : Int32)) dX9_judged_96 (by decide) ?_
          refine r_istore dX9_judged_99 (by decide) ?_
          refine r_iload dX9_judged_101 rfl ?_
          refine r_iload dX9_judged_103 rfl ?_
          refine r_iload dX9_judged_105 rfl ?_
          refine r_mmin dX9_judged_107 ml_RX9_389 (Nat.le_of_ble_eq_true rfl) (by omega) ?_
          refine r_mmax dX9_judged_110 ml_RX9_222 (Nat.le_of_ble_eq_true rfl) (by omega) ?_
          refine r_iret dX9_judged_113 rfl rfl ?_
          exact ⟨_, rfl, by rw [f_X9_judged, if_pos c1, if_pos c2, if_neg c5, if_neg c6], by rw [f_X9_judged, if_pos c1, if_pos c2, if_neg c5, if_neg c6]⟩
        · refine r_sipush (v := (9999 : Int32)) dX9_judged_90 (by decide) ?_
          refine r_goto (tgt := 99) dX9_judged_93 (by decide) ?_
          refine r_istore dX9_judged_99 (by decide) ?_
          refine r_iload dX9_judged_101 rfl ?_
          refine r_iload dX9_judged_103 rfl ?_
          refine r_iload dX9_judged_105 rfl ?_
          refine r_mmin dX9_judged_107 ml_RX9_389 (Nat.le_of_ble_eq_true rfl) (by omega) ?_
          refine r_mmax dX9_judged_110 ml_RX9_222 (Nat.le_of_ble_eq_true rfl) (by omega) ?_
          refine r_iret dX9_judged_113 rfl rfl ?_
          exact ⟨_, rfl, by rw [f_X9_judged, if_pos c1, if_pos c2, if_neg c5, if_pos c6], by rw [f_X9_judged, if_pos c1, if_pos c2, if_neg c5, if_pos c6]⟩
      · refine r_bipush (v := (99 : Int32)) dX9_judged_80 (by decide) ?_
        refine r_goto (tgt := 99) dX9_judged_82 (by decide) ?_
        refine r_istore dX9_judged_99 (by decide) ?_
        refine r_iload dX9_judged_101 rfl ?_
        refine r_iload dX9_judged_103 rfl ?_
        refine r_iload dX9_judged_105 rfl ?_
        refine r_mmin dX9_judged_107 ml_RX9_389 (Nat.le_of_ble_eq_true rfl) (by omega) ?_
        refine r_mmax dX9_judged_110 ml_RX9_222 (Nat.le_of_ble_eq_true rfl) (by omega) ?_
        refine r_iret dX9_judged_113 rfl rfl ?_
        exact ⟨_, rfl, by rw [f_X9_judged, if_pos c1, if_pos c2, if_pos c5], by rw [f_X9_judged, if_pos c1, if_pos c2, if_pos c5]⟩
  · refine r_aload_n dX9_judged_14 rfl ?_
    refine x_getI (c := 9) (x := (σ.1 9 0 6)) hE (fun _ _ => rfl) (fun _ => rfl) dX9_judged_15 fl_RX9_213 (Nat.le_of_ble_eq_true rfl) rfl ?_
    refine r_bipush (v := (6 : Int32)) dX9_judged_18 (by decide) ?_
    refine r_icmp_ge (tgt := 35) dX9_judged_20 (by decide) (fun c7 => ?_) (fun c7 => ?_)
    · refine r_null dX9_judged_35 ?_
      refine r_astore_nN dX9_judged_36 (by decide) ?_
      refine r_iconst (v := (0 : Int32)) dX9_judged_37 (by decide) ?_
      refine r_istore dX9_judged_38 (by decide) ?_
      refine r_aload_nN dX9_judged_40 rfl ?_
      refine r_ifnullN (tgt := 64) dX9_judged_41 (by decide) ?_
      refine r_iload_n dX9_judged_64 rfl ?_
      refine r_iconst (v := (2 : Int32)) dX9_judged_65 (by decide) ?_
      refine r_icmp_ne (tgt := 73) dX9_judged_66 (by decide) (fun c8 => ?_) (fun c8 => ?_)
      · refine r_iconst (v := (0 : Int32)) dX9_judged_73 (by decide) ?_
        refine r_istore dX9_judged_74 (by decide) ?_
        refine r_iload_n dX9_judged_76 rfl ?_
        refine r_if_ne (tgt := 85) dX9_judged_77 (by decide) (fun c9 => ?_) (fun c9 => ?_)
        · refine r_iload_n dX9_judged_85 rfl ?_
          refine r_iconst (v := (1 : Int32)) dX9_judged_86 (by decide) ?_
          refine r_icmp_ne (tgt := 96) dX9_judged_87 (by decide) (fun c10 => ?_) (fun c10 => ?_)
          · refine r_sipush (v := (999 : Int32)) dX9_judged_96 (by decide) ?_
            refine r_istore dX9_judged_99 (by decide) ?_
            refine r_iload dX9_judged_101 rfl ?_
            refine r_iload dX9_judged_103 rfl ?_
            refine r_iload dX9_judged_105 rfl ?_
            refine r_mmin dX9_judged_107 ml_RX9_389 (Nat.le_of_ble_eq_true rfl) (by omega) ?_
            refine r_mmax dX9_judged_110 ml_RX9_222 (Nat.le_of_ble_eq_true rfl) (by omega) ?_
            refine r_iret dX9_judged_113 rfl rfl ?_
            exact ⟨_, rfl, by rw [f_X9_judged, if_neg c1, if_pos c7, if_neg c8, if_neg c9, if_neg c10], by rw [f_X9_judged, if_neg c1, if_pos c7, if_neg c8, if_neg c9, if_neg c10]⟩
          · refine r_sipush (v := (9999 : Int32)) dX9_judged_90 (by decide) ?_
            refine r_goto (tgt := 99) dX9_judged_93 (by decide) ?_
            refine r_istore dX9_judged_99 (by decide) ?_
            refine r_iload dX9_judged_101 rfl ?_
            refine r_iload dX9_judged_103 rfl ?_
            refine r_iload dX9_judged_105 rfl ?_
            refine r_mmin dX9_judged_107 ml_RX9_389 (Nat.le_of_ble_eq_true rfl) (by omega) ?_
            refine r_mmax dX9_judged_110 ml_RX9_222 (Nat.le_of_ble_eq_true rfl) (by omega) ?_
            refine r_iret dX9_judged_113 rfl rfl ?_
            exact ⟨_, rfl, by rw [f_X9_judged, if_neg c1, if_pos c7, if_neg c8, if_neg c9, if_pos c10], by rw [f_X9_judged, if_neg c1, if_pos c7, if_neg c8, if_neg c9, if_pos c10]⟩
        · refine r_bipush (v := (99 : Int32)) dX9_judged_80 (by decide) ?_
          refine r_goto (tgt := 99) dX9_judged_82 (by decide) ?_
          refine r_istore dX9_judged_99 (by decide) ?_
          refine r_iload dX9_judged_101 rfl ?_
          refine r_iload dX9_judged_103 rfl ?_
          refine r_iload dX9_judged_105 rfl ?_
          refine r_mmin dX9_judged_107 ml_RX9_389 (Nat.le_of_ble_eq_true rfl) (by omega) ?_
          refine r_mmax dX9_judged_110 ml_RX9_222 (Nat.le_of_ble_eq_true rfl) (by omega) ?_
          refine r_iret dX9_judged_113 rfl rfl ?_
          exact ⟨_, rfl, by rw [f_X9_judged, if_neg c1, if_pos c7, if_neg c8, if_pos c9], by rw [f_X9_judged, if_neg c1, if_pos c7, if_neg c8, if_pos c9]⟩
      · refine r_iconst (v := (1 : Int32)) dX9_judged_69 (by decide) ?_
        refine r_goto (tgt := 74) dX9_judged_70 (by decide) ?_
        refine r_istore dX9_judged_74 (by decide) ?_
        refine r_iload_n dX9_judged_76 rfl ?_
        refine r_if_ne (tgt := 85) dX9_judged_77 (by decide) (fun c11 => ?_) (fun c11 => ?_)
        · refine r_iload_n dX9_judged_85 rfl ?_
          refine r_iconst (v := (1 : Int32)) dX9_judged_86 (by decide) ?_
          refine r_icmp_ne (tgt := 96) dX9_judged_87 (by decide) (fun c12 => ?_) (fun c12 => ?_)
          · refine r_sipush (v := (999 : Int32)) dX9_judged_96 (by decide) ?_
            refine r_istore dX9_judged_99 (by decide) ?_
            refine r_iload dX9_judged_101 rfl ?_
            refine r_iload dX9_judged_103 rfl ?_
            refine r_iload dX9_judged_105 rfl ?_
            refine r_mmin dX9_judged_107 ml_RX9_389 (Nat.le_of_ble_eq_true rfl) (by omega) ?_
            refine r_mmax dX9_judged_110 ml_RX9_222 (Nat.le_of_ble_eq_true rfl) (by omega) ?_
            refine r_iret dX9_judged_113 rfl rfl ?_
            exact ⟨_, rfl, by rw [f_X9_judged, if_neg c1, if_pos c7, if_pos c8, if_neg c11, if_neg c12], by rw [f_X9_judged, if_neg c1, if_pos c7, if_pos c8, if_neg c11, if_neg c12]⟩
          · refine r_sipush (v := (9999 : Int32)) dX9_judged_90 (by decide) ?_
            refine r_goto (tgt := 99) dX9_judged_93 (by decide) ?_
            refine r_istore dX9_judged_99 (by decide) ?_
            refine r_iload dX9_judged_101 rfl ?_
            refine r_iload dX9_judged_103 rfl ?_
            refine r_iload dX9_judged_105 rfl ?_
            refine r_mmin dX9_judged_107 ml_RX9_389 (Nat.le_of_ble_eq_true rfl) (by omega) ?_
            refine r_mmax dX9_judged_110 ml_RX9_222 (Nat.le_of_ble_eq_true rfl) (by omega) ?_
            refine r_iret dX9_judged_113 rfl rfl ?_
            exact ⟨_, rfl, by rw [f_X9_judged, if_neg c1, if_pos c7, if_pos c8, if_neg c11, if_pos c12], by rw [f_X9_judged, if_neg c1, if_pos c7, if_pos c8, if_neg c11, if_pos c12]⟩
        · refine r_bipush (v := (99 : Int32)) dX9_judged_80 (by decide) ?_
          refine r_goto (tgt := 99) dX9_judged_82 (by decide) ?_
          refine r_istore dX9_judged_99 (by decide) ?_
          refine r_iload dX9_judged_101 rfl ?_
          refine r_iload dX9_judged_103 rfl ?_
          refine r_iload dX9_judged_105 rfl ?_
          refine r_mmin dX9_judged_107 ml_RX9_389 (Nat.le_of_ble_eq_true rfl) (by omega) ?_
          refine r_mmax dX9_judged_110 ml_RX9_222 (Nat.le_of_ble_eq_true rfl) (by omega) ?_
          refine r_iret dX9_judged_113 rfl rfl ?_
          exact ⟨_, rfl, by rw [f_X9_judged, if_neg c1, if_pos c7, if_pos c8, if_pos c11], by rw [f_X9_judged, if_neg c1, if_pos c7, if_pos c8, if_pos c11]⟩
    · refine r_aload_n dX9_judged_23 rfl ?_
      refine x_get (c := 9) hE (fun _ _ => rfl) dX9_judged_24 fl_RX9_23 (Nat.le_of_ble_eq_true rfl) rfl ?_
      refine r_aload_n dX9_judged_27 rfl ?_
      refine x_getI (c := 9) (x := (σ.1 9 0 6)) hE (fun _ _ => rfl) (fun _ => rfl) dX9_judged_28 fl_RX9_213 (Nat.le_of_ble_eq_true rfl) rfl ?_
      refine x_aald (c := 12) (c2 := 5) (t0 := 5) (n0 := S 0 2) hE (fun _ _ => rfl) (Nat.le_of_ble_eq_true rfl) rfl dX9_judged_31 (by exact (h0.rAt (by with_reducible assumption)).2) (by exact (h0.rAt (by with_reducible assumption)).1) ?_
      refine r_goto (tgt := 36) dX9_judged_32 (by decide) ?_
      refine r_astore_n dX9_judged_36 (by decide) ?_
      refine r_iconst (v := (0 : Int32)) dX9_judged_37 (by decide) ?_
      refine r_istore dX9_judged_38 (by decide) ?_
      refine r_aload_n dX9_judged_40 rfl ?_
      refine r_ifnull dX9_judged_41 ?_
      refine r_aload_n dX9_judged_44 rfl ?_
      refine r_aload_n dX9_judged_45 rfl ?_
      refine x_callV0 (c := 9) (i := 0) hE (fun _ _ => rfl) (Nat.le_of_ble_eq_true rfl) dX9_judged_46 mf_X9_learnNames ml_RX9_381 (ok_X9_learnNames (d := d - 1) hE hX (by omega) _ _ (by with_reducible assumption) (by with_reducible assumption)) rfl rfl rfl rfl (Nat.le_of_ble_eq_true rfl) (by omega) ?_
      refine r_aload_n dX9_judged_49 rfl ?_
      refine r_iload_n dX9_judged_50 rfl ?_
      refine r_aload_n dX9_judged_51 rfl ?_
      refine x_get (c := 9) hE (fun _ _ => rfl) dX9_judged_52 fl_RX9_67 (Nat.le_of_ble_eq_true rfl) rfl ?_
      refine r_aload_n dX9_judged_55 rfl ?_
      refine x_get (c := 9) hE (fun _ _ => rfl) dX9_judged_56 fl_RX9_71 (Nat.le_of_ble_eq_true rfl) rfl ?_
      refine x_callW (c := 5) (i := (Int32.toNatClampNeg (σ.1 9 0 6))) hE (fun _ _ => rfl) (by exact (h0.rAt (by with_reducible assumption)).1) dX9_judged_59 mf_X5_valueOf ml_RX9_385 (ok_X5_valueOf (d := d - 1) hE hX (by omega) _ _ _ (by exact (h0.rAt (by with_reducible assumption)).1) (by exact h0.cl (h0.rAt (by with_reducible assumption)).1)) rfl rfl rfl rfl (Nat.le_of_ble_eq_true rfl) (by omega) ?_
      refine r_istore dX9_judged_62 (by decide) ?_
      refine r_iload_n dX9_judged_64 rfl ?_
      refine r_iconst (v := (2 : Int32)) dX9_judged_65 (by decide) ?_
      refine r_icmp_ne (tgt := 73) dX9_judged_66 (by decide) (fun c13 => ?_) (fun c13 => ?_)
      · refine r_iconst (v := (0 : Int32)) dX9_judged_73 (by decide) ?_
        refine r_istore dX9_judged_74 (by decide) ?_
        refine r_iload_n dX9_judged_76 rfl ?_
        refine r_if_ne (tgt := 85) dX9_judged_77 (by decide) (fun c14 => ?_) (fun c14 => ?_)
        · refine r_iload_n dX9_judged_85 rfl ?_
          refine r_iconst (v := (1 : Int32)) dX9_judged_86 (by decide) ?_
          refine r_icmp_ne (tgt := 96) dX9_judged_87 (by decide) (fun c15 => ?_) (fun c15 => ?_)
          · refine r_sipush (v := (999 : Int32)) dX9_judged_96 (by decide) ?_
            refine r_istore dX9_judged_99 (by decide) ?_
            refine r_iload dX9_judged_101 rfl ?_
            refine r_iload dX9_judged_103 rfl ?_
            refine r_iload dX9_judged_105 rfl ?_
            refine r_mmin dX9_judged_107 ml_RX9_389 (Nat.le_of_ble_eq_true rfl) (by omega) ?_
            refine r_mmax dX9_judged_110 ml_RX9_222 (Nat.le_of_ble_eq_true rfl) (by omega) ?_
            refine r_iret dX9_judged_113 rfl rfl ?_
            exact ⟨_, rfl, by rw [f_X9_judged, if_neg c1, if_neg c7, if_neg c13, if_neg c14, if_neg c15], by rw [f_X9_judged, if_neg c1, if_neg c7, if_neg c13, if_neg c14, if_neg c15]⟩
          · refine r_sipush (v := (9999 : Int32)) dX9_judged_90 (by decide) ?_
            refine r_goto (tgt := 99) dX9_judged_93 (by decide) ?_
            refine r_istore dX9_judged_99 (by decide) ?_
            refine r_iload dX9_judged_101 rfl ?_
            refine r_iload dX9_judged_103 rfl ?_
            refine r_iload dX9_judged_105 rfl ?_
            refine r_mmin dX9_judged_107 ml_RX9_389 (Nat.le_of_ble_eq_true rfl) (by omega) ?_
            refine r_mmax dX9_judged_110 ml_RX9_222 (Nat.le_of_ble_eq_true rfl) (by omega) ?_
            refine r_iret dX9_judged_113 rfl rfl ?_
            exact ⟨_, rfl, by rw [f_X9_judged, if_neg c1, if_neg c7, if_neg c13, if_neg c14, if_pos c15], by rw [f_X9_judged, if_neg c1, if_neg c7, if_neg c13, if_neg c14, if_pos c15]⟩
        · refine r_bipush (v := (99 : Int32)) dX9_judged_80 (by decide) ?_
          refine r_goto (tgt := 99) dX9_judged_82 (by decide) ?_
          refine r_istore dX9_judged_99 (by decide) ?_
          refine r_iload dX9_judged_101 rfl ?_
          refine r_iload dX9_judged_103 rfl ?_
          refine r_iload dX9_judged_105 rfl ?_
          refine r_mmin dX9_judged_107 ml_RX9_389 (Nat.le_of_ble_eq_true rfl) (by omega) ?_
          refine r_mmax dX9_judged_110 ml_RX9_222 (Nat.le_of_ble_eq_true rfl) (by omega) ?_
          refine r_iret dX9_judged_113 rfl rfl ?_
          exact ⟨_, rfl, by rw [f_X9_judged, if_neg c1, if_neg c7, if_neg c13, if_pos c14], by rw [f_X9_judged, if_neg c1, if_neg c7, if_neg c13, if_pos c14]⟩
      · refine r_iconst (v := (1 : Int32)) dX9_judged_69 (by decide) ?_
        refine r_goto (tgt := 74) dX9_judged_70 (by decide) ?_
        refine r_istore dX9_judged_74 (by decide) ?_
        refine r_iload_n dX9_judged_76 rfl ?_
        refine r_if_ne (tgt := 85) dX9_judged_77 (by decide) (fun c16 => ?_) (fun c16 => ?_)
        · refine r_iload_n dX9_judged_85 rfl ?_
          refine r_iconst (v := (1 : Int32)) dX9_judged_86 (by decide) ?_
          refine r_icmp_ne (tgt := 96) dX9_judged_87 (by decide) (fun c17 => ?_) (fun c17 => ?_)
          · refine r_sipush (v := (999 : Int32)) dX9_judged_96 (by decide) ?_
            refine r_istore dX9_judged_99 (by decide) ?_
            refine r_iload dX9_judged_101 rfl ?_
            refine r_iload dX9_judged_103 rfl ?_
            refine r_iload dX9_judged_105 rfl ?_
            refine r_mmin dX9_judged_107 ml_RX9_389 (Nat.le_of_ble_eq_true rfl) (by omega) ?_
            refine r_mmax dX9_judged_110 ml_RX9_222 (Nat.le_of_ble_eq_true rfl) (by omega) ?_
            refine r_iret dX9_judged_113 rfl rfl ?_
            exact ⟨_, rfl, by rw [f_X9_judged, if_neg c1, if_neg c7, if_pos c13, if_neg c16, if_neg c17], by rw [f_X9_judged, if_neg c1, if_neg c7, if_pos c13, if_neg c16, if_neg c17]⟩
          · refine r_sipush (v := (9999 : Int32)) dX9_judged_90 (by decide) ?_
            refine r_goto (tgt := 99) dX9_judged_93 (by decide) ?_
            refine r_istore dX9_judged_99 (by decide) ?_
            refine r_iload dX9_judged_101 rfl ?_
            refine r_iload dX9_judged_103 rfl ?_
            refine r_iload dX9_judged_105 rfl ?_
            refine r_mmin dX9_judged_107 ml_RX9_389 (Nat.le_of_ble_eq_true rfl) (by omega) ?_
            refine r_mmax dX9_judged_110 ml_RX9_222 (Nat.le_of_ble_eq_true rfl) (by omega) ?_
            refine r_iret dX9_judged_113 rfl rfl ?_
            exact ⟨_, rfl, by rw [f_X9_judged, if_neg c1, if_neg c7, if_pos c13, if_neg c16, if_pos c17], by rw [f_X9_judged, if_neg c1, if_neg c7, if_pos c13, if_neg c16, if_pos c17]⟩
        · refine r_bipush (v := (99 : Int32)) dX9_judged_80 (by decide) ?_
          refine r_goto (tgt := 99) dX9_judged_82 (by decide) ?_
          refine r_istore dX9_judged_99 (by decide) ?_
          refine r_iload dX9_judged_101 rfl ?_
          refine r_iload dX9_judged_103 rfl ?_
          refine r_iload dX9_judged_105 rfl ?_
          refine r_mmin dX9_judged_107 ml_RX9_389 (Nat.le_of_ble_eq_true rfl) (by omega) ?_
          refine r_mmax dX9_judged_110 ml_RX9_222 (Nat.le_of_ble_eq_true rfl) (by omega) ?_
          refine r_iret dX9_judged_113 rfl rfl ?_
          exact ⟨_, rfl, by rw [f_X9_judged, if_neg c1, if_neg c7, if_pos c13, if_pos c16], by rw [f_X9_judged, if_neg c1, if_neg c7, if_pos c13, if_pos c16]⟩

/-- alike but for what reckoning uses -/
def XSm (σ σ' : XSt) : Prop := σ'.1 = σ.1 ∧ ∀ c, c ≠ 15 → c ≠ 16 → ∀ i, σ'.2 c i = σ.2 c i
theorem XSm.rf (σ : XSt) : XSm σ σ := ⟨rfl, fun _ _ _ _ => rfl⟩
theorem XSm.tr {a b c : XSt} (h : XSm a b) (k : XSm b c) : XSm a c := ⟨k.1.trans h.1, fun q h1 h2 i => (k.2 q h1 h2 i).trans (h.2 q h1 h2 i)⟩
theorem XSm.xa {σ σ' : XSt} (h : XSm σ σ') {c i k : Nat} {x : Int32} (hc : c = 15 ∨ c = 16) : XSm σ (xa σ' c i k x) := by
  refine ⟨h.1, fun q h1 h2 j => ?_⟩
  show up3 σ'.2 c i k x q j = σ.2 q j
  rw [up3_other _ _ _ (fun z => by rcases hc with e | e <;> (rw [z.1] at h1 h2; contradiction))]
  exact h.2 q h1 h2 j
theorem XInv.sm {S : XSh} {σ σ' : XSt} (h : XInv S σ) (k : XSm σ σ') : XInv S σ' := by
  unfold XInv at h ⊢
  rw [k.1, k.2 23 (by decide) (by decide)]
  exact h
theorem XSm.ln (S : XSh) (σ : XSt) (b : Nat) : XSm σ (f_X9_learnNames S σ b) := by
  unfold f_X9_learnNames
  repeat first | exact XSm.rf _ | refine XSm.xa ?_ (Or.inl rfl)
theorem XSm.vl : ∀ (n : Nat) (S : XSh) (σ0 σ : XSt) (l0 : Nat) (l1 l4 l5 l6 l7 : Int32), XSm σ0 σ → XSm σ0 (f_X5_valueOf_L63 n S σ l0 l1 l4 l5 l6 l7).2 := by
  intro n
  induction n with
  | zero => intro S σ0 σ l0 l1 l4 l5 l6 l7 h; unfold f_X5_valueOf_L63; exact h
  | succ n ih =>
    intro S σ0 σ l0 l1 l4 l5 l6 l7 h
    unfold f_X5_valueOf_L63
    (repeat' split) <;> first | exact h | (apply ih; first | exact h | exact h.xa (Or.inr rfl))
theorem XSm.vo (S : XSh) (σ0 σ : XSt) (r : Nat) (p : Int32) (h : XSm σ0 σ) : XSm σ0 (f_X5_valueOf S σ r p).2 := by
  unfold f_X5_valueOf
  (repeat' split) <;> exact XSm.vl _ _ _ _ _ _ _ _ _ _ h
theorem XSm.jd (S : XSh) (σ : XSt) (b : Nat) (p : Int32) : XSm σ (f_X9_judged S σ b p).2 := by
  unfold f_X9_judged
  (repeat' split) <;> first | exact XSm.rf _ | exact XSm.vo _ _ _ _ _ (XSm.ln _ _ _)
theorem XInv.jd {S : XSh} {σ : XSt} (h : XInv S σ) {b : Nat} {p : Int32} : XInv S (f_X9_judged S σ b p).2 := h.sm (XSm.jd S σ b p)
theorem XInv.po {S : XSh} {σ : XSt} (h : XInv S σ) {b : Nat} {x y z : Int32} : XInv S (f_X1_passOn S σ b x y z) := by
  unfold f_X1_passOn
  (repeat' split) <;> (repeat first | exact h | apply XInv.c1)
theorem XInv.fg {S : XSh} {σ : XSt} (h : XInv S σ) {b : Nat} : XInv S (f_X1_forgetSales S σ b) := by
  unfold f_X1_forgetSales
  repeat first | exact h | apply XInv.c1

def f_X9_weighDoubts_L12 : Nat → XSh → XSt → Int32 → Int32 → Int32 × XSt
  | 0, _, σ, _, _ => (0, σ)
  | n + 1, S, σ, l1, l2 => (if l1 ≤ l2 then (l1, σ) else (f_X9_weighDoubts_L12 n S (xa (f_X9_judged S (xa (f_X9_judged S σ (Int32.toNatClampNeg l2) (0 : Int32)).2 17 0 (Int32.toNatClampNeg l2) (f_X9_judged S σ (Int32.toNatClampNeg l2) (0 : Int32)).1) (Int32.toNatClampNeg l2) (2 : Int32)).2 18 0 (Int32.toNatClampNeg l2) (f_X9_judged S (xa (f_X9_judged S σ (Int32.toNatClampNeg l2) (0 : Int32)).2 17 0 (Int32.toNatClampNeg l2) (f_X9_judged S σ (Int32.toNatClampNeg l2) (0 : Int32)).1) (Int32.toNatClampNeg l2) (2 : Int32)).1) l1 (l2 + (1 : Int32))))
set_option maxRecDepth 100000 in
set_option maxHeartbeats 1000000 in
theorem lp_X9_weighDoubts_12 {g : GC} {B : hH} {am : XAd} {S : XSh} {d : Nat} {K : Option Value → XSt → Prop} (hE : XOk am S) (hX : GX g) (hd : 5 ≤ d) : ∀ (fuel : Nat) (σ : XSt) (l1 : Int32) (l2 : Int32), XInv S σ → Mn S l1 → Ct l2 10 → 11 - l2.toNatClampNeg < fuel → K (some (.int (f_X9_weighDoubts_L12 fuel S σ l1 l2).1)) (f_X9_weighDoubts_L12 fuel S σ l1 l2).2 → XW g B am S RX9 cX9_weighDoubts 4 (some FieldType.int) "weighDoubts" d K 12 [(0, .ref (am 9 0)), (1, .int l1), (2, .int l2)] [] σ := by
  intro fuel
  induction fuel with
  | zero => intro σ l1 l2 i0 i1 i2 hm hK; exact absurd hm (Nat.not_lt_zero _)
  | succ n ih =>
    intro σ l1 l2 i0 i1 i2 hm hK
    refine r_iload_n dX9_weighDoubts_12 rfl ?_
    refine r_iload_n dX9_weighDoubts_13 rfl ?_
    refine r_icmp_ge (tgt := 70) dX9_weighDoubts_14 (by decide) (fun c1 => ?_) (fun c1 => ?_)
    · refine r_iload_n dX9_weighDoubts_70 rfl ?_
      refine r_iret dX9_weighDoubts_71 rfl rfl ?_
      exact ⟨_, rfl, by rw [f_X9_weighDoubts_L12, if_pos c1] at hK; exact hK⟩
    · refine r_aload_n dX9_weighDoubts_17 rfl ?_
      refine x_get (c := 9) hE (fun _ _ => rfl) dX9_weighDoubts_18 fl_RX9_17 (Nat.le_of_ble_eq_true rfl) rfl ?_
      refine r_iload_n dX9_weighDoubts_21 rfl ?_
      refine x_aald (c := 11) (c2 := 1) (t0 := 4) (n0 := S 0 1) hE (fun _ _ => rfl) (Nat.le_of_ble_eq_true rfl) rfl dX9_weighDoubts_22 (by exact (Mn.up i1 i2 i0.nb.2 (by with_reducible assumption)).2.1) (by exact (Mn.up i1 i2 i0.nb.2 (by with_reducible assumption)).1) ?_
      refine r_astore_n dX9_weighDoubts_23 (by decide) ?_
      refine r_aload_n dX9_weighDoubts_24 rfl ?_
      refine x_get (c := 9) hE (fun _ _ => rfl) dX9_weighDoubts_25 fl_RX9_74 (Nat.le_of_ble_eq_true rfl) rfl ?_
      refine r_iload_n dX9_weighDoubts_28 rfl ?_
      refine r_aload_n dX9_weighDoubts_29 rfl ?_
      refine r_ifnonnull (tgt := 37) dX9_weighDoubts_30 (by decide) ?_
      refine r_aload_n dX9_weighDoubts_37 rfl ?_
      refine r_aload_n dX9_weighDoubts_38 rfl ?_
      refine r_iconst (v := (0 : Int32)) dX9_weighDoubts_39 (by decide) ?_
      refine x_callW (c := 9) (i := 0) hE (fun _ _ => rfl) (Nat.le_of_ble_eq_true rfl) dX9_weighDoubts_40 mf_X9_judged ml_RX9_183 (ok_X9_judged (d := d - 1) hE hX (by omega) _ _ _ (by exact (Mn.up i1 i2 i0.nb.2 (by with_reducible assumption)).1) (by (repeat first | with_reducible assumption | apply XInv.jd | refine XInv.xa ?_ (by decide)))) rfl rfl rfl rfl (Nat.le_of_ble_eq_true rfl) (by omega) ?_
      refine x_iast (c := 17) (i := 0) (N := 10) hE (fun _ _ => rfl) dX9_weighDoubts_43 (Nat.le_of_ble_eq_true rfl) (by exact (Mn.up i1 i2 i0.nb.2 (by with_reducible assumption)).2.2.1) ?_
      refine r_aload_n dX9_weighDoubts_44 rfl ?_
      refine x_get (c := 9) hE (fun _ _ => rfl) dX9_weighDoubts_45 fl_RX9_77 (Nat.le_of_ble_eq_true rfl) rfl ?_
      refine r_iload_n dX9_weighDoubts_48 rfl ?_
      refine r_aload_n dX9_weighDoubts_49 rfl ?_
      refine r_ifnonnull (tgt := 57) dX9_weighDoubts_50 (by decide) ?_
      refine r_aload_n dX9_weighDoubts_57 rfl ?_
      refine r_aload_n dX9_weighDoubts_58 rfl ?_
      refine r_iconst (v := (2 : Int32)) dX9_weighDoubts_59 (by decide) ?_
      refine x_callW (c := 9) (i := 0) hE (fun _ _ => rfl) (Nat.le_of_ble_eq_true rfl) dX9_weighDoubts_60 mf_X9_judged ml_RX9_183 (ok_X9_judged (d := d - 1) hE hX (by omega) _ _ _ (by exact (Mn.up i1 i2 i0.nb.2 (by with_reducible assumption)).1) (by (repeat first | with_reducible assumption | apply XInv.jd | refine XInv.xa ?_ (by decide)))) rfl rfl rfl rfl (Nat.le_of_ble_eq_true rfl) (by omega) ?_
      refine x_iast (c := 18) (i := 0) (N := 10) hE (fun _ _ => rfl) dX9_weighDoubts_63 (Nat.le_of_ble_eq_true rfl) (by exact (Mn.up i1 i2 i0.nb.2 (by with_reducible assumption)).2.2.1) ?_
      refine r_iinc2 (w := (1 : Int32)) dX9_weighDoubts_64 rfl (by decide) (by decide) ?_
      refine r_goto (tgt := 12) dX9_weighDoubts_67 (by decide) ?_
      refine r_loc (L' := [(0, .ref (am 9 0)), (1, .int l1), (2, .int (l2 + (1 : Int32)))]) [2, 3, 0] rfl ?_
      exact ih (xa (f_X9_judged S (xa (f_X9_judged S σ (Int32.toNatClampNeg l2) (0 : Int32)).2 17 0 (Int32.toNatClampNeg l2) (f_X9_judged S σ (Int32.toNatClampNeg l2) (0 : Int32)).1) (Int32.toNatClampNeg l2) (2 : Int32)).2 18 0 (Int32.toNatClampNeg l2) (f_X9_judged S (xa (f_X9_judged S σ (Int32.toNatClampNeg l2) (0 : Int32)).2 17 0 (Int32.toNatClampNeg l2) (f_X9_judged S σ (Int32.toNatClampNeg l2) (0 : Int32)).1) (Int32.toNatClampNeg l2) (2 : Int32)).1)  l1 (l2 + (1 : Int32)) (by (repeat first | with_reducible assumption | apply XInv.jd | refine XInv.xa ?_ (by decide))) (by exact i1) (by exact (Mn.up i1 i2 i0.nb.2 (by with_reducible assumption)).2.2.2.1) (by have u := (Mn.up i1 i2 i0.nb.2 (by with_reducible assumption)).2.2.2.2; omega) (by rw [f_X9_weighDoubts_L12, if_neg c1] at hK; exact hK)
def f_X9_weighDoubts (S : XSh) (σ : XSt)  : Int32 × XSt := (f_X9_weighDoubts_L12 (12) S σ (if (10 : Int32) < (σ.1 9 0 3) then (10 : Int32) else (σ.1 9 0 3)) (0 : Int32))
set_option maxRecDepth 100000 in
set_option maxHeartbeats 1000000 in
theorem ok_X9_weighDoubts {g : GC} {B : hH} {am : XAd} {S : XSh} {d : Nat} (hE : XOk am S) (hX : GX g) (hd : 5 ≤ d) (σ : XSt)  (h0 : XInv S σ) : XC g B am S d yX9_weighDoubts cX9_weighDoubts 4 (some FieldType.int) [.ref (am 9 0)] (fun v σ' => v = some (.int (f_X9_weighDoubts S σ).1) ∧ σ' = (f_X9_weighDoubts S σ).2) σ := by
  refine AM.of2 (own := RX9) (nm := "weighDoubts") (L0 := [(0, .ref (am 9 0))]) (by decide) rfl rfl (Nat.le_of_ble_eq_true rfl) rfl ?_
  refine r_aload_n dX9_weighDoubts_0 rfl ?_
  refine x_getI (c := 9) (x := (σ.1 9 0 3)) hE (fun _ _ => rfl) (fun _ => rfl) dX9_weighDoubts_1 fl_RX9_142 (Nat.le_of_ble_eq_true rfl) rfl ?_
  refine r_bipush (v := (10 : Int32)) dX9_weighDoubts_4 (by decide) ?_
  refine r_mmin dX9_weighDoubts_6 ml_RX9_389 (Nat.le_of_ble_eq_true rfl) (by omega) ?_
  refine r_istore_n dX9_weighDoubts_9 (by decide) ?_
  refine r_iconst (v := (0 : Int32)) dX9_weighDoubts_10 (by decide) ?_
  refine r_istore_n dX9_weighDoubts_11 (by decide) ?_
  refine r_loc (L' := [(0, .ref (am 9 0)), (1, .int (if (10 : Int32) < (σ.1 9 0 3) then (10 : Int32) else (σ.1 9 0 3))), (2, .int (0 : Int32))]) [2, 1, 0] rfl ?_
  exact lp_X9_weighDoubts_12 hE hX (by omega) (12) σ (if (10 : Int32) < (σ.1 9 0 3) then (10 : Int32) else (σ.1 9 0 3)) (0 : Int32) (by exact h0) (by exact h0.mn) (by exact Ct.zero _) (by omega) ⟨by rw [f_X9_weighDoubts], by rw [f_X9_weighDoubts]⟩

def f_X9_passOnAgain_L33 : Nat → XSh → XSt → Int32 → XSt
  | 0, _, σ, _ => σ
  | n + 1, S, σ, l1 => (if (σ.1 3 0 5) ≤ l1 then σ else (f_X9_passOnAgain_L33 n S (f_X1_passOn S σ (Int32.toNatClampNeg (σ.2 23 0 (Int32.toNatClampNeg l1))) (σ.2 24 0 (Int32.toNatClampNeg l1)) (σ.2 25 0 (Int32.toNatClampNeg l1)) (σ.2 27 0 (Int32.toNatClampNeg l1))) (l1 + (1 : Int32))))
set_option maxRecDepth 100000 in
set_option maxHeartbeats 1000000 in
theorem lp_X9_passOnAgain_33 {g : GC} {B : hH} {am : XAd} {S : XSh} {d : Nat} {K : Option Value → XSt → Prop} (hE : XOk am S) (hX : GX g) (hd : 2 ≤ d) : ∀ (fuel : Nat) (σ : XSt) (l1 : Int32), XInv S σ → Ct l1 40 → 41 - l1.toNatClampNeg < fuel → K none (f_X9_passOnAgain_L33 fuel S σ l1) → XW g B am S RX9 cX9_passOnAgain 3 none "passOnAgain" d K 33 [(0, .ref (am 9 0)), (1, .int l1)] [] σ := by
  intro fuel
  induction fuel with
  | zero => intro σ l1 i0 i1 hm hK; exact absurd hm (Nat.not_lt_zero _)
  | succ n ih =>
    intro σ l1 i0 i1 hm hK
    refine r_iload_n dX9_passOnAgain_33 rfl ?_
    refine r_aload_n dX9_passOnAgain_34 rfl ?_
    refine x_get (c := 9) hE (fun _ _ => rfl) dX9_passOnAgain_35 fl_RX9_37 (Nat.le_of_ble_eq_true rfl) rfl ?_
    refine x_getI (c := 3) (x := (σ.1 3 0 5)) hE (fun _ _ => rfl) (fun _ => rfl) dX9_passOnAgain_38 fl_RX9_199 (Nat.le_of_ble_eq_true rfl) rfl ?_
    refine r_icmp_ge (tgt := 99) dX9_passOnAgain_41 (by decide) (fun c2 => ?_) (fun c2 => ?_)
    · refine r_vret dX9_passOnAgain_99 rfl ?_
      exact ⟨_, rfl, by rw [f_X9_passOnAgain_L33, if_pos c2] at hK; exact hK⟩
    · refine r_aload_n dX9_passOnAgain_44 rfl ?_
      refine r_aload_n dX9_passOnAgain_45 rfl ?_
      refine x_get (c := 9) hE (fun _ _ => rfl) dX9_passOnAgain_46 fl_RX9_37 (Nat.le_of_ble_eq_true rfl) rfl ?_
      refine x_get (c := 3) hE (fun _ _ => rfl) dX9_passOnAgain_49 fl_RX9_286 (Nat.le_of_ble_eq_true rfl) rfl ?_
      refine r_iload_n dX9_passOnAgain_52 rfl ?_
      refine x_ialdV (c := 23) (i := 0) (N := 40) (x := (σ.2 23 0 (Int32.toNatClampNeg l1))) hE (fun _ _ => rfl) dX9_passOnAgain_53 (Nat.le_of_ble_eq_true rfl) (by exact (Ct.up (by decide) i0.ns i1 (by with_reducible assumption)).1) rfl ?_
      refine x_callW (c := 9) (i := 0) hE (fun _ _ => rfl) (Nat.le_of_ble_eq_true rfl) dX9_passOnAgain_54 mf_X9_bottleAt ml_RX9_148 (ok_X9_bottleAt (d := d - 1) hE hX (by omega) _ _ (by with_reducible assumption)) rfl rfl rfl rfl (Nat.le_of_ble_eq_true rfl) (by omega) ?_
      rw [if_neg (by exact i0.bSb i1 (by with_reducible assumption))]
      refine r_astore_n dX9_passOnAgain_57 (by decide) ?_
      refine r_aload_n dX9_passOnAgain_58 rfl ?_
      refine r_ifnull dX9_passOnAgain_59 ?_
      refine r_aload_n dX9_passOnAgain_62 rfl ?_
      refine r_aload_n dX9_passOnAgain_63 rfl ?_
      refine x_get (c := 9) hE (fun _ _ => rfl) dX9_passOnAgain_64 fl_RX9_37 (Nat.le_of_ble_eq_true rfl) rfl ?_
      refine x_get (c := 3) hE (fun _ _ => rfl) dX9_passOnAgain_67 fl_RX9_280 (Nat.le_of_ble_eq_true rfl) rfl ?_
      refine r_iload_n dX9_passOnAgain_70 rfl ?_
      refine x_ialdV (c := 24) (i := 0) (N := 40) (x := (σ.2 24 0 (Int32.toNatClampNeg l1))) hE (fun _ _ => rfl) dX9_passOnAgain_71 (Nat.le_of_ble_eq_true rfl) (by exact (Ct.up (by decide) i0.ns i1 (by with_reducible assumption)).1) rfl ?_
      refine r_aload_n dX9_passOnAgain_72 rfl ?_
      refine x_get (c := 9) hE (fun _ _ => rfl) dX9_passOnAgain_73 fl_RX9_37 (Nat.le_of_ble_eq_true rfl) rfl ?_
      refine x_get (c := 3) hE (fun _ _ => rfl) dX9_passOnAgain_76 fl_RX9_283 (Nat.le_of_ble_eq_true rfl) rfl ?_
      refine r_iload_n dX9_passOnAgain_79 rfl ?_
      refine x_ialdV (c := 25) (i := 0) (N := 40) (x := (σ.2 25 0 (Int32.toNatClampNeg l1))) hE (fun _ _ => rfl) dX9_passOnAgain_80 (Nat.le_of_ble_eq_true rfl) (by exact (Ct.up (by decide) i0.ns i1 (by with_reducible assumption)).1) rfl ?_
      refine r_aload_n dX9_passOnAgain_81 rfl ?_
      refine x_get (c := 9) hE (fun _ _ => rfl) dX9_passOnAgain_82 fl_RX9_37 (Nat.le_of_ble_eq_true rfl) rfl ?_
      refine x_get (c := 3) hE (fun _ _ => rfl) dX9_passOnAgain_85 fl_RX9_307 (Nat.le_of_ble_eq_true rfl) rfl ?_
      refine r_iload_n dX9_passOnAgain_88 rfl ?_
      refine x_ialdV (c := 27) (i := 0) (N := 40) (x := (σ.2 27 0 (Int32.toNatClampNeg l1))) hE (fun _ _ => rfl) dX9_passOnAgain_89 (Nat.le_of_ble_eq_true rfl) (by exact (Ct.up (by decide) i0.ns i1 (by with_reducible assumption)).1) rfl ?_
      refine x_callV0 (c := 1) (i := (Int32.toNatClampNeg (σ.2 23 0 (Int32.toNatClampNeg l1)))) hE (fun _ _ => rfl) (by first | with_reducible assumption | exact i0.bSl i1 (by with_reducible assumption)) dX9_passOnAgain_90 mf_X1_passOn ml_RX9_205 (ok_X1_passOn (d := d - 1) hE hX (by omega) _ _ _ _ _ (by first | with_reducible assumption | exact i0.bSl i1 (by with_reducible assumption))) rfl rfl rfl rfl (Nat.le_of_ble_eq_true rfl) (by omega) ?_
      refine r_iinc2 (w := (1 : Int32)) dX9_passOnAgain_93 rfl (by decide) (by decide) ?_
      refine r_goto (tgt := 33) dX9_passOnAgain_96 (by decide) ?_
      refine r_loc (L' := [(0, .ref (am 9 0)), (1, .int (l1 + (1 : Int32)))]) [2, 0] rfl ?_
      exact ih (f_X1_passOn S σ (Int32.toNatClampNeg (σ.2 23 0 (Int32.toNatClampNeg l1))) (σ.2 24 0 (Int32.toNatClampNeg l1)) (σ.2 25 0 (Int32.toNatClampNeg l1)) (σ.2 27 0 (Int32.toNatClampNeg l1)))  (l1 + (1 : Int32)) (by exact i0.po) (by exact (Ct.up (by decide) i0.ns i1 (by with_reducible assumption)).2.1) (by have u := (Ct.up (by decide) i0.ns i1 (by with_reducible assumption)).2.2; omega) (by rw [f_X9_passOnAgain_L33, if_neg c2] at hK; exact hK)
def f_X9_passOnAgain_L2 : Nat → XSh → XSt → Int32 → XSt
  | 0, _, σ, _ => σ
  | n + 1, S, σ, l1 => (if (σ.1 9 0 3) ≤ l1 then (f_X9_passOnAgain_L33 (42) S σ (0 : Int32)) else (f_X9_passOnAgain_L2 n S (f_X1_forgetSales S σ (Int32.toNatClampNeg l1)) (l1 + (1 : Int32))))
set_option maxRecDepth 100000 in
set_option maxHeartbeats 1000000 in
theorem lp_X9_passOnAgain_2 {g : GC} {B : hH} {am : XAd} {S : XSh} {d : Nat} {K : Option Value → XSt → Prop} (hE : XOk am S) (hX : GX g) (hd : 2 ≤ d) : ∀ (fuel : Nat) (σ : XSt) (l1 : Int32), XInv S σ → Ct l1 24 → 25 - l1.toNatClampNeg < fuel → K none (f_X9_passOnAgain_L2 fuel S σ l1) → XW g B am S RX9 cX9_passOnAgain 3 none "passOnAgain" d K 2 [(0, .ref (am 9 0)), (1, .int l1)] [] σ := by
  intro fuel
  induction fuel with
  | zero => intro σ l1 i0 i1 hm hK; exact absurd hm (Nat.not_lt_zero _)
  | succ n ih =>
    intro σ l1 i0 i1 hm hK
    refine r_iload_n dX9_passOnAgain_2 rfl ?_
    refine r_aload_n dX9_passOnAgain_3 rfl ?_
    refine x_getI (c := 9) (x := (σ.1 9 0 3)) hE (fun _ _ => rfl) (fun _ => rfl) dX9_passOnAgain_4 fl_RX9_142 (Nat.le_of_ble_eq_true rfl) rfl ?_
    refine r_icmp_ge (tgt := 31) dX9_passOnAgain_7 (by decide) (fun c1 => ?_) (fun c1 => ?_)
    · refine r_iconst (v := (0 : Int32)) dX9_passOnAgain_31 (by decide) ?_
      refine r_istore_n dX9_passOnAgain_32 (by decide) ?_
      refine r_loc (L' := [(0, .ref (am 9 0)), (1, .int (0 : Int32))]) [1, 0] rfl ?_
      exact lp_X9_passOnAgain_33 hE hX (by omega) (42) σ (0 : Int32) (by exact i0) (by exact Ct.zero _) (by omega) (by rw [f_X9_passOnAgain_L2, if_pos c1] at hK; exact hK)
    · refine r_aload_n dX9_passOnAgain_10 rfl ?_
      refine x_get (c := 9) hE (fun _ _ => rfl) dX9_passOnAgain_11 fl_RX9_17 (Nat.le_of_ble_eq_true rfl) rfl ?_
      refine r_iload_n dX9_passOnAgain_14 rfl ?_
      refine x_aald (c := 11) (c2 := 1) (t0 := 4) (n0 := S 0 1) hE (fun _ _ => rfl) (Nat.le_of_ble_eq_true rfl) rfl dX9_passOnAgain_15 (by exact (i0.bUp i1 (by with_reducible assumption)).2.1) (by exact (i0.bUp i1 (by with_reducible assumption)).1) ?_
      refine r_astore_n dX9_passOnAgain_16 (by decide) ?_
      refine r_aload_n dX9_passOnAgain_17 rfl ?_
      refine r_ifnull dX9_passOnAgain_18 ?_
      refine r_aload_n dX9_passOnAgain_21 rfl ?_
      refine x_callV0 (c := 1) (i := (Int32.toNatClampNeg l1)) hE (fun _ _ => rfl) (by first | with_reducible assumption | exact (i0.bUp i1 (by with_reducible assumption)).1) dX9_passOnAgain_22 mf_X1_forgetSales ml_RX9_405 (ok_X1_forgetSales (d := d - 1) hE hX (by omega) _ _ (by first | with_reducible assumption | exact (i0.bUp i1 (by with_reducible assumption)).1)) rfl rfl rfl rfl (Nat.le_of_ble_eq_true rfl) (by omega) ?_
      refine r_iinc2 (w := (1 : Int32)) dX9_passOnAgain_25 rfl (by decide) (by decide) ?_
      refine r_goto (tgt := 2) dX9_passOnAgain_28 (by decide) ?_
      refine r_loc (L' := [(0, .ref (am 9 0)), (1, .int (l1 + (1 : Int32)))]) [2, 0] rfl ?_
      exact ih (f_X1_forgetSales S σ (Int32.toNatClampNeg l1))  (l1 + (1 : Int32)) (by exact i0.fg) (by exact (i0.bUp i1 (by with_reducible assumption)).2.2.1) (by have u := (i0.bUp i1 (by with_reducible assumption)).2.2.2; omega) (by rw [f_X9_passOnAgain_L2, if_neg c1] at hK; exact hK)
def f_X9_passOnAgain (S : XSh) (σ : XSt)  : XSt := (f_X9_passOnAgain_L2 (26) S σ (0 : Int32))
set_option maxRecDepth 100000 in
set_option maxHeartbeats 1000000 in
theorem ok_X9_passOnAgain {g : GC} {B : hH} {am : XAd} {S : XSh} {d : Nat} (hE : XOk am S) (hX : GX g) (hd : 2 ≤ d) (σ : XSt)  (h0 : XInv S σ) : XC g B am S d yX9_passOnAgain cX9_passOnAgain 3 none [.ref (am 9 0)] (fun v σ' => v = none ∧ σ' = (f_X9_passOnAgain S σ)) σ := by
  refine AM.of2 (own := RX9) (nm := "passOnAgain") (L0 := [(0, .ref (am 9 0))]) (by decide) rfl rfl (Nat.le_of_ble_eq_true rfl) rfl ?_
  refine r_iconst (v := (0 : Int32)) dX9_passOnAgain_0 (by decide) ?_
  refine r_istore_n dX9_passOnAgain_1 (by decide) ?_
  refine r_loc (L' := [(0, .ref (am 9 0)), (1, .int (0 : Int32))]) [1, 0] rfl ?_
  exact lp_X9_passOnAgain_2 hE hX (by omega) (26) σ (0 : Int32) (by exact h0) (by exact Ct.zero _) (by omega) ⟨by rfl, by rw [f_X9_passOnAgain]⟩
