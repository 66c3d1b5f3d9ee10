
/-- two states that are alike but for what reading uses -/
def Sm (σ σ' : MSt) : Prop := σ'.2.2 = σ.2.2 ∧ ∀ j, j < 27 ∨ 41 < j → σ'.1 j = σ.1 j
theorem Sm.rf (σ : MSt) : Sm σ σ := ⟨rfl, fun _ _ => rfl⟩
theorem Sm.tr {a b c : MSt} (h : Sm a b) (h2 : Sm b c) : Sm a c := ⟨h2.1.trans h.1, fun j hj => (h2.2 j hj).trans (h.2 j hj)⟩
theorem Sm.put {σ σ' : MSt} (h : Sm σ σ') {k : Nat} (hk : 27 ≤ k ∧ k ≤ 41) (v : Int32) : Sm σ (mp σ' k v) := by
  refine ⟨h.1, fun j hj => ?_⟩
  show upd σ'.1 k v j = _
  unfold upd
  rw [if_neg (by omega)]
  exact h.2 j hj
theorem Cl.sm {σ σ' : MSt} (h : Cl σ σ') : Sm σ σ' := ⟨h.1, fun j hj => h.2 j (by omega)⟩
theorem MInv.sm {σ σ' : MSt} (h : MInv σ) (hs : Sm σ σ') : MInv σ' := by
  unfold MInv at h ⊢
  rw [hs.1, hs.2 12 (by omega), hs.2 20 (by omega), hs.2 26 (by omega), hs.2 3 (by omega), hs.2 6 (by omega), hs.2 4 (by omega), hs.2 53 (by omega), hs.2 54 (by omega), hs.2 55 (by omega)]
  exact h
section CG
variable {σ σ' : MSt}
theorem cg_shows (h : Sm σ σ') (b p : Int32) : f_X10_showsOf σ' b p = f_X10_showsOf σ b p := by unfold f_X10_showsOf; rw [h.1]
theorem cg_bars (h : Sm σ σ') (b p : Int32) : f_X10_bars σ' b p = f_X10_bars σ b p := by unfold f_X10_bars; rw [cg_shows h, h.1]
theorem cg_isOdd (h : Sm σ σ') (b p : Int32) : f_X10_isOdd σ' b p = f_X10_isOdd σ b p := by unfold f_X10_isOdd; rw [cg_bars h, cg_shows h, h.1]
theorem cg_barsOf (h : Sm σ σ') (b : Int32) : f_X10_barsOf σ' b = f_X10_barsOf σ b := by unfold f_X10_barsOf; simp only [cg_bars h]
theorem cg_oddsOf (h : Sm σ σ') (b : Int32) : f_X10_oddsOf σ' b = f_X10_oddsOf σ b := by unfold f_X10_oddsOf; simp only [cg_isOdd h]
theorem cg_isBarred (h : Sm σ σ') (b : Int32) : f_X10_isBarred σ' b = f_X10_isBarred σ b := by unfold f_X10_isBarred; rw [cg_barsOf h, h.1]
theorem cg_lastL (h : Sm σ σ') : ∀ (n : Nat) (a b c : Int32), f_X10_lastOf_L4 n σ' a b c = f_X10_lastOf_L4 n σ a b c
  | 0, _, _, _ => rfl
  | n + 1, a, b, c => by rw [f_X10_lastOf_L4, f_X10_lastOf_L4, h.1, cg_lastL h n]
theorem cg_last (h : Sm σ σ') (a b : Int32) : f_X10_lastOf σ' a b = f_X10_lastOf σ a b := by unfold f_X10_lastOf; exact cg_lastL h _ _ _ _
theorem cg_gapL (h : Sm σ σ') : ∀ (n : Nat) (a b c : Int32), f_X10_gapOf_L4 n σ' a b c = f_X10_gapOf_L4 n σ a b c
  | 0, _, _, _ => rfl
  | n + 1, a, b, c => by rw [f_X10_gapOf_L4, f_X10_gapOf_L4]; simp only [h.1, h.2 26 (by omega), cg_last h, cg_gapL h n]
theorem cg_gap (h : Sm σ σ') (a : Int32) : f_X10_gapOf σ' a = f_X10_gapOf σ a := by unfold f_X10_gapOf; exact cg_gapL h _ _ _ _
theorem cg_owner (h : Sm σ σ') (a : Int32) : f_X10_ownerOf σ' a = f_X10_ownerOf σ a := by unfold f_X10_ownerOf; simp only [cg_last h, h.1, h.2 26 (by omega)]
theorem cg_soldL (h : Sm σ σ') : ∀ (n : Nat) (a b c : Int32), f_X10_soldOf_L4 n σ' a b c = f_X10_soldOf_L4 n σ a b c
  | 0, _, _, _ => rfl
  | n + 1, a, b, c => by rw [f_X10_soldOf_L4, f_X10_soldOf_L4]; simp only [h.1, h.2 20 (by omega), cg_owner h, cg_soldL h n]
theorem cg_sold (h : Sm σ σ') (a : Int32) : f_X10_soldOf σ' a = f_X10_soldOf σ a := by unfold f_X10_soldOf; exact cg_soldL h _ _ _ _
theorem cg_txt (h : Sm σ σ') (x : Nat) : txt σ' x = txt σ x := by unfold txt; rw [h.1]
end CG
/-- what THE RULE is told of a bottle -/
def envB (σ : MSt) (b : Int32) : Nat → Int32 := fun i => if i = 0 then f_X10_bitsOf (f_X10_barsOf σ b) else if i = 1 then f_X10_bitsOf (f_X10_oddsOf σ b) else if i = 2 then f_X10_gapOf σ b else if i = 3 then σ.2.2 7 (σ.2.2 17 b.toNatClampNeg).toNatClampNeg else if i = 4 then σ.2.2 8 (σ.2.2 17 b.toNatClampNeg).toNatClampNeg else if i = 5 then f_X10_soldOf σ (σ.2.2 17 b.toNatClampNeg) else σ.1 (36 + i)
def ROk (σ : MSt) : Prop := ∃ r, textG (txt σ (σ.1 4).toNatClampNeg) = .ok r
def rr (σ : MSt) : (List Int32 × Ev) × (List Int32 × Ev) × (List Int32 × Ev) := match textG (txt σ (σ.1 4).toNatClampNeg) with
  | .ok r => r
  | .error _ => (([], fun _ => 0), ([], fun _ => 0), ([], fun _ => 0))
def sy (σ : MSt) (b wh : Int32) : Int32 := if wh = 0 then (rr σ).1.2 (envB σ b) else if wh = 1 then (rr σ).2.1.2 (envB σ b) else (rr σ).2.2.2 (envB σ b)
theorem cg_envB {σ σ' : MSt} (h : Sm σ σ') (b : Int32) (i : Nat) (hi : i < 6) : envB σ' b i = envB σ b i := by
  unfold envB
  rw [cg_barsOf h, cg_oddsOf h, cg_gap h, h.1, cg_sold h]
  by_cases q : i = 0 <;> by_cases q1 : i = 1 <;> by_cases q2 : i = 2 <;> by_cases q3 : i = 3 <;> by_cases q4 : i = 4 <;> by_cases q5 : i = 5 <;> simp_all
  omega

theorem W_gen {g : GC} {own : String} {cc : ByteArray} {nL : Nat} {ret : Option FieldType} {nm : String} {d c n : Nat} {K : Option Value → hH → Prop} {pc : Nat} {L : List (Nat × Value)} {rest : List Value} {h : hH} {x : Int32} (k : ∀ y : Int32, y = x → AW g own cc nL ret nm d c n K pc L (.int y :: rest) h) : AW g own cc nL ret nm d c n K pc L (.int x :: rest) h := k x rfl
theorem W_top {g : GC} {own : String} {cc : ByteArray} {nL : Nat} {ret : Option FieldType} {nm : String} {d c n : Nat} {K : Option Value → hH → Prop} {pc : Nat} {L : List (Nat × Value)} {rest : List Value} {h : hH} {v v' : Value} (e : v = v') (k : AW g own cc nL ret nm d c n K pc L (v' :: rest) h) : AW g own cc nL ret nm d c n K pc L (v :: rest) h := e ▸ k

set_option maxRecDepth 100000 in
set_option maxHeartbeats 2000000 in
theorem mk_saysOf {g : GC} {E : ME} {d : Nat} (hE : MEok E) (hd : 41 ≤ d) (σ : MSt) (p1 p2 : Int32) (h0 : MInv σ) (h1 : vp_in p1 24) (h2 : ROk σ) : MC g E d yX10_saysOf cX10_saysOf 3 (some .int) [.int p1, .int p2] (fun v σ' => v = some (.int (sy σ p1 p2)) ∧ Sm σ σ') σ := by
  have hb := h1
  have hsy := h0.says p1.toNatClampNeg
  refine AM.of2 (own := RX10) (nm := "saysOf") (L0 := [(0, .ref E.2.2), (1, .int p1), (2, .int p2)]) (by decide) rfl rfl (Nat.le_of_ble_eq_true rfl) rfl ?_
  refine r_aload_n dX10_saysOf_0 rfl ?_
  refine r_aload_n dX10_saysOf_1 rfl ?_
  refine r_iload_n dX10_saysOf_2 rfl ?_
  refine m_callW dX10_saysOf_3 mf_X10_barsOf ml_RX10_202 (ok_X10_barsOf (d := d - 1) hE (by omega) _ _ h0 h1) rfl rfl rfl (Nat.le_of_ble_eq_true rfl) (by omega) ?_
  refine m_callS dX10_saysOf_6 mf_X10_bitsOf ml_RX10_385 (ok_X10_bitsOf (d := d - 1) (by omega) _ (barsOf_8 _ _)) rfl rfl (Nat.le_of_ble_eq_true rfl) (by omega) ?_
  refine W_gen (fun y1 e1 => ?_)
  refine m_put hE dX10_saysOf_9 fp_RX10_303 rfl rfl rfl (by decide) ?_
  refine r_aload_n dX10_saysOf_12 rfl ?_
  refine r_aload_n dX10_saysOf_13 rfl ?_
  refine r_iload_n dX10_saysOf_14 rfl ?_
  have m1 := (Sm.rf σ).put (k := 36) (by omega) y1
  refine m_callW dX10_saysOf_15 mf_X10_oddsOf ml_RX10_206 (ok_X10_oddsOf (d := d - 1) hE (by omega) _ _ (h0.sm m1) h1) rfl rfl rfl (Nat.le_of_ble_eq_true rfl) (by omega) ?_
  rw [cg_oddsOf m1]
  refine m_callS dX10_saysOf_18 mf_X10_bitsOf ml_RX10_385 (ok_X10_bitsOf (d := d - 1) (by omega) _ (oddsOf_8 _ _)) rfl rfl (Nat.le_of_ble_eq_true rfl) (by omega) ?_
  refine W_gen (fun y2 e2 => ?_)
  refine m_put hE dX10_saysOf_21 fp_RX10_308 rfl rfl rfl (by decide) ?_
  refine r_aload_n dX10_saysOf_24 rfl ?_
  refine r_aload_n dX10_saysOf_25 rfl ?_
  refine r_iload_n dX10_saysOf_26 rfl ?_
  have m2 := m1.put (k := 37) (by omega) y2
  refine m_callW dX10_saysOf_27 mf_X10_gapOf ml_RX10_212 (ok_X10_gapOf (d := d - 1) hE (by omega) _ _ (h0.sm m2)) rfl rfl rfl (Nat.le_of_ble_eq_true rfl) (by omega) ?_
  rw [cg_gap m2]
  refine W_gen (fun y3 e3 => ?_)
  refine m_put hE dX10_saysOf_30 fp_RX10_313 rfl rfl rfl (by decide) ?_
  refine r_aload_n dX10_saysOf_33 rfl ?_
  refine r_aload_n dX10_saysOf_34 rfl ?_
  refine m_get dX10_saysOf_35 fl_RX10_23 rfl ?_
  refine r_aload_n dX10_saysOf_38 rfl ?_
  refine m_get dX10_saysOf_39 fl_RX10_50 rfl ?_
  refine r_iload_n dX10_saysOf_42 rfl ?_
  have m3 := m2.put (k := 38) (by omega) y3
  refine m_iald (k := 17) (N := 24) hE (by decide) rfl rfl dX10_saysOf_43 h1 ?_
  refine m_iald (k := 7) (N := 8) hE (by decide) rfl rfl dX10_saysOf_44 hsy ?_
  refine W_gen (fun y4 e4 => ?_)
  refine m_put hE dX10_saysOf_45 fp_RX10_318 rfl rfl rfl (by decide) ?_
  refine r_aload_n dX10_saysOf_48 rfl ?_
  refine r_aload_n dX10_saysOf_49 rfl ?_
  refine m_get dX10_saysOf_50 fl_RX10_26 rfl ?_
  refine r_aload_n dX10_saysOf_53 rfl ?_
  refine m_get dX10_saysOf_54 fl_RX10_50 rfl ?_
  refine r_iload_n dX10_saysOf_57 rfl ?_
  refine m_iald (k := 17) (N := 24) hE (by decide) rfl rfl dX10_saysOf_58 h1 ?_
  refine m_iald (k := 8) (N := 8) hE (by decide) rfl rfl dX10_saysOf_59 hsy ?_
  refine W_gen (fun y5 e5 => ?_)
  refine m_put hE dX10_saysOf_60 fp_RX10_323 rfl rfl rfl (by decide) ?_
  refine r_aload_n dX10_saysOf_63 rfl ?_
  refine r_aload_n dX10_saysOf_64 rfl ?_
  refine r_aload_n dX10_saysOf_65 rfl ?_
  refine m_get dX10_saysOf_66 fl_RX10_50 rfl ?_
  refine r_iload_n dX10_saysOf_69 rfl ?_
  have m5 := (m3.put (k := 39) (by omega) y4).put (k := 40) (by omega) y5
  refine m_iald (k := 17) (N := 24) hE (by decide) rfl rfl dX10_saysOf_70 h1 ?_
  refine m_callW dX10_saysOf_71 mf_X10_soldOf ml_RX10_388 (ok_X10_soldOf (d := d - 1) hE (by omega) _ _ (h0.sm m5)) rfl rfl rfl (Nat.le_of_ble_eq_true rfl) (by omega) ?_
  rw [cg_sold m5]
  refine W_gen (fun y6 e6 => ?_)
  refine m_put hE dX10_saysOf_74 fp_RX10_328 rfl rfl rfl (by decide) ?_
  refine r_aload_n dX10_saysOf_77 rfl ?_
  refine r_aload_n dX10_saysOf_78 rfl ?_
  refine m_get dX10_saysOf_79 fl_RX10_382 rfl ?_
  refine r_iload_n dX10_saysOf_82 rfl ?_
  have m6 := m5.put (k := 41) (by omega) y6
  generalize hs6 : mp (mp (mp (mp (mp (mp σ 36 y1) 37 y2) 38 y3) 39 y4) 40 y5) 41 y6 = s6 at m6 ⊢
  have e4r : s6.1 4 = σ.1 4 := m6.2 4 (by omega)
  refine m_call (As := [.int (s6.1 4), .int p2]) dX10_saysOf_83 mf_X10_read ml_RX10_379 (mk_read (d := d - 1) hE (by omega) _ _ _ (h0.sm m6) (by rw [e4r]; exact h0.rl)) rfl rfl rfl (Nat.le_of_ble_eq_true rfl) (by omega) (fun v s k => ?_)
  rw [e4r] at k
  unfold Kr at k
  rw [cg_txt m6] at k
  obtain ⟨r, hr⟩ := h2
  rw [hr] at k
  obtain ⟨rfl, hc, -⟩ := k
  refine r_iret dX10_saysOf_86 rfl rfl ?_
  refine ⟨_, rfl, ?_, m6.tr hc.sm⟩
  have ee : env s6 = envB σ p1 := by
    funext i
    unfold envB
    rw [← e1, ← e2, ← e3, ← hs6]
    have e4 : σ.2.2 7 (σ.2.2 17 p1.toNatClampNeg).toNatClampNeg = y4 := e4.symm
    have e5 : σ.2.2 8 (σ.2.2 17 p1.toNatClampNeg).toNatClampNeg = y5 := e5.symm
    have e6 : f_X10_soldOf σ (σ.2.2 17 p1.toNatClampNeg) = y6 := e6.symm
    rw [e4, e5, e6]
    unfold env
    simp only [mp, upd]
    clear e1 e2 e3 e4 e5 e6 hs6 hr hc m1 m2 m3 m5 m6
    match i with
    | 0 => rfl
    | 1 => rfl
    | 2 => rfl
    | 3 => rfl
    | 4 => rfl
    | 5 => rfl
    | k + 6 => rw [if_neg (by omega), if_neg (by omega), if_neg (by omega), if_neg (by omega), if_neg (by omega), if_neg (by omega), if_neg (by omega), if_neg (by omega), if_neg (by omega), if_neg (by omega), if_neg (by omega), if_neg (by omega)]
  have er : rr σ = r := by unfold rr; rw [hr]
  unfold sy
  rw [er, ← ee]

def dbt (σ : MSt) (b : Int32) : Int32 := f_X10_within (sy σ b 0) 0 99
set_option maxRecDepth 100000 in
set_option maxHeartbeats 2000000 in
theorem mk_doubtOf {g : GC} {E : ME} {d : Nat} (hE : MEok E) (hd : 42 ≤ d) (σ : MSt) (p1 : Int32) (h0 : MInv σ) (h1 : vp_in p1 24) (h2 : ROk σ) : MC g E d yX10_doubtOf cX10_doubtOf 2 (some .int) [.int p1] (fun v σ' => v = some (.int (dbt σ p1)) ∧ Sm σ σ') σ := by
  refine AM.of2 (own := RX10) (nm := "doubtOf") (L0 := [(0, .ref E.2.2), (1, .int p1)]) (by decide) rfl rfl (Nat.le_of_ble_eq_true rfl) rfl ?_
  refine r_aload_n dX10_doubtOf_0 rfl ?_
  refine r_iload_n dX10_doubtOf_1 rfl ?_
  refine r_iconst (v := 0) dX10_doubtOf_2 (by decide) ?_
  refine m_call (As := [.int p1, .int 0]) dX10_doubtOf_3 mf_X10_saysOf ml_RX10_391 (mk_saysOf (d := d - 1) hE (by omega) σ p1 0 h0 h1 h2) rfl rfl rfl (Nat.le_of_ble_eq_true rfl) (by omega) (fun v s k => ?_)
  obtain ⟨rfl, hc⟩ := k
  refine r_iconst (v := 0) dX10_doubtOf_6 (by decide) ?_
  refine r_bipush (v := 99) dX10_doubtOf_7 (by decide) ?_
  refine m_callS dX10_doubtOf_9 mf_X10_within ml_RX10_394 (ok_X10_within (d := d - 1) (by omega) _ _ _) rfl rfl (Nat.le_of_ble_eq_true rfl) (by omega) ?_
  refine r_iret dX10_doubtOf_12 rfl rfl ?_
  exact ⟨_, rfl, rfl, hc⟩
def prc (σ : MSt) (b : Int32) : Int32 := f_X10_within (sy σ b 1) 0 9999
set_option maxRecDepth 100000 in
set_option maxHeartbeats 2000000 in
theorem mk_priceOf {g : GC} {E : ME} {d : Nat} (hE : MEok E) (hd : 42 ≤ d) (σ : MSt) (p1 : Int32) (h0 : MInv σ) (h1 : vp_in p1 24) (h2 : ROk σ) : MC g E d yX10_priceOf cX10_priceOf 2 (some .int) [.int p1] (fun v σ' => v = some (.int (prc σ p1)) ∧ Sm σ σ') σ := by
  refine AM.of2 (own := RX10) (nm := "priceOf") (L0 := [(0, .ref E.2.2), (1, .int p1)]) (by decide) rfl rfl (Nat.le_of_ble_eq_true rfl) rfl ?_
  refine r_aload_n dX10_priceOf_0 rfl ?_
  refine r_iload_n dX10_priceOf_1 rfl ?_
  refine r_iconst (v := 1) dX10_priceOf_2 (by decide) ?_
  refine m_call (As := [.int p1, .int 1]) dX10_priceOf_3 mf_X10_saysOf ml_RX10_391 (mk_saysOf (d := d - 1) hE (by omega) σ p1 1 h0 h1 h2) rfl rfl rfl (Nat.le_of_ble_eq_true rfl) (by omega) (fun v s k => ?_)
  obtain ⟨rfl, hc⟩ := k
  refine r_iconst (v := 0) dX10_priceOf_6 (by decide) ?_
  refine r_sipush (v := 9999) dX10_priceOf_7 (by decide) ?_
  refine m_callS dX10_priceOf_10 mf_X10_within ml_RX10_394 (ok_X10_within (d := d - 1) (by omega) _ _ _) rfl rfl (Nat.le_of_ble_eq_true rfl) (by omega) ?_
  refine r_iret dX10_priceOf_13 rfl rfl ?_
  exact ⟨_, rfl, rfl, hc⟩
def opn (σ : MSt) (b : Int32) : Int32 := f_X10_within (sy σ b 2) 1 999
set_option maxRecDepth 100000 in
set_option maxHeartbeats 2000000 in
theorem mk_openOf {g : GC} {E : ME} {d : Nat} (hE : MEok E) (hd : 42 ≤ d) (σ : MSt) (p1 : Int32) (h0 : MInv σ) (h1 : vp_in p1 24) (h2 : ROk σ) : MC g E d yX10_openOf cX10_openOf 2 (some .int) [.int p1] (fun v σ' => v = some (.int (opn σ p1)) ∧ Sm σ σ') σ := by
  refine AM.of2 (own := RX10) (nm := "openOf") (L0 := [(0, .ref E.2.2), (1, .int p1)]) (by decide) rfl rfl (Nat.le_of_ble_eq_true rfl) rfl ?_
  refine r_aload_n dX10_openOf_0 rfl ?_
  refine r_iload_n dX10_openOf_1 rfl ?_
  refine r_iconst (v := 2) dX10_openOf_2 (by decide) ?_
  refine m_call (As := [.int p1, .int 2]) dX10_openOf_3 mf_X10_saysOf ml_RX10_391 (mk_saysOf (d := d - 1) hE (by omega) σ p1 2 h0 h1 h2) rfl rfl rfl (Nat.le_of_ble_eq_true rfl) (by omega) (fun v s k => ?_)
  obtain ⟨rfl, hc⟩ := k
  refine r_iconst (v := 1) dX10_openOf_6 (by decide) ?_
  refine r_sipush (v := 999) dX10_openOf_7 (by decide) ?_
  refine m_callS dX10_openOf_10 mf_X10_within ml_RX10_394 (ok_X10_within (d := d - 1) (by omega) _ _ _) rfl rfl (Nat.le_of_ble_eq_true rfl) (by omega) ?_
  refine r_iret dX10_openOf_13 rfl rfl ?_
  exact ⟨_, rfl, rfl, hc⟩
