
theorem cg_handsL {σ σ' : MSt} (h : Sm σ σ') : ∀ (n : Nat) (a b c : Int32), f_X10_handsOf_L4 n σ' a b c = f_X10_handsOf_L4 n σ a b c
  | 0, _, _, _ => rfl
  | n + 1, a, b, c => by rw [f_X10_handsOf_L4, f_X10_handsOf_L4]; simp only [h.1, h.2 26 (by omega), cg_handsL h n]
theorem cg_hands {σ σ' : MSt} (h : Sm σ σ') (a : Int32) : f_X10_handsOf σ' a = f_X10_handsOf σ a := by unfold f_X10_handsOf; exact cg_handsL h _ _ _ _
/-- of the first k bottles those that fall -/
def flN (σ : MSt) (b hd : Int32) : Nat → Int64
  | 0 => 0
  | k + 1 => flN σ b hd k + (if (σ.2.2 17 k = σ.2.2 17 b.toNatClampNeg ∨ ¬ f_X10_handsOf σ (nI k) &&& hd = 0) ∧ f_X10_isBarred σ (nI k) = 0 then (prc σ (nI k)).toInt64 else 0)
def fFalls (σ : MSt) (b sh : Int32) : Int64 := if f_X10_isBottle σ b = 0 then -4611686018427387904 else if f_X10_in sh.toInt64 0 100 = 0 then -4611686018427387904 else flN σ b (f_X10_handsOf σ b) (σ.1 20).toNatClampNeg * sh.toInt64 / 100
/-- the rule reads the names 0 .. 5 alone -/
def six (e : Ev) : Prop := ∀ v v' : Nat → Int32, (∀ i, i < 6 → v i = v' i) → e v = e v'
def SixR (f : Nat → Rs) : Prop := ∀ p r, f p = .ok r → six r.2.1
theorem nameIx_lt {w : Int64} {i : Nat} (h : nameIx w = some i) : i < 6 := by
  unfold nameIx at h
  (repeat' split at h) <;> first | (cases h; omega) | cases h
theorem SixR.one {t : TB} {al : Bool} {rO rE : Nat → Rs} (hO : al = true → SixR rO) (hE : al = true → SixR rE) : SixR (oneG t al rO rE) := by
  intro p r h
  unfold oneG at h
  split at h
  · split at h
    · next q =>
      cases e : rO (tk t p).2.2.2 with
      | error x => rw [e] at h; cases h
      | ok r' =>
        rw [e] at h
        cases h
        intro v v' hv
        show -_ = -_
        rw [hO q _ _ e v v' hv]
    · cases h
  · split at h
    · split at h
      · next q =>
        cases e : rE (tk t p).2.2.2 with
        | error x => rw [e] at h; cases h
        | ok r' =>
          rw [e] at h
          dsimp only at h
          split at h
          · cases h; exact fun v v' hv => hE q _ _ e v v' hv
          · cases h
      · cases h
    · split at h
      · cases h; exact fun _ _ _ => rfl
      · split at h
        · cases e : nameIx (tk t p).2.2.1 with
          | none => rw [e] at h; cases h
          | some i => rw [e] at h; cases h; exact fun v v' hv => hv i (nameIx_lt e)
        · cases h
theorem SixR.loop {t : TB} {op : Tk → Option Int32} {sub : Nat → Rs} (hs : SixR sub) : ∀ (n : Nat) (c : List Int32) (e : Ev) (p : Nat) (r : List Int32 × Ev × Nat), six e → loopG t op sub n c e p = .ok r → six r.2.1 := by
  intro n
  induction n with
  | zero => intro c e p r _ h; cases h
  | succ n ih =>
    intro c e p r he h
    unfold loopG at h
    cases e1 : op (tk t p) with
    | none => rw [e1] at h; cases h; exact he
    | some k =>
      rw [e1] at h
      dsimp only at h
      cases e2 : sub (tk t p).2.2.2 with
      | error x => rw [e2] at h; cases h
      | ok r2 =>
        rw [e2] at h
        refine ih _ _ _ r ?_ h
        intro v v' hv
        show jn k _ _ = jn k _ _
        rw [he v v' hv, hs _ _ e2 v v' hv]
theorem SixR.chain {t : TB} {op : Tk → Option Int32} {sub : Nat → Rs} (hs : SixR sub) : SixR (chainG t op sub) := by
  intro p r h
  unfold chainG at h
  cases e : sub p with
  | error x => rw [e] at h; cases h
  | ok r2 => rw [e] at h; exact SixR.loop hs _ _ _ _ _ (hs _ _ e) h
theorem SixR.not {t : TB} {al : Bool} {rN add : Nat → Rs} (hN : al = true → SixR rN) (hA : SixR add) : SixR (notG t al rN add) := by
  intro p r h
  unfold notG at h
  split at h
  · split at h
    · next q =>
      cases e : rN (tk t p).2.2.2 with
      | error x => rw [e] at h; cases h
      | ok r' =>
        rw [e] at h
        cases h
        intro v v' hv
        show (if r'.2.1 v = 0 then (1 : Int32) else 0) = (if r'.2.1 v' = 0 then 1 else 0)
        rw [hN q _ _ e v v' hv]
    · cases h
  · cases e : add p with
    | error x => rw [e] at h; cases h
    | ok r1 =>
      rw [e] at h
      dsimp only at h
      split at h
      · cases e2 : add (tk t r1.2.2).2.2.2 with
        | error x => rw [e2] at h; cases h
        | ok r2 =>
          rw [e2] at h
          cases h
          intro v v' hv
          show jn _ _ _ = jn _ _ _
          rw [hA _ _ e v v' hv, hA _ _ e2 v v' hv]
      · cases h; exact hA _ _ e
theorem gram_six (t : TB) : ∀ k, SixR (gram t k).1 ∧ SixR (gram t k).2.1 ∧ SixR (gram t k).2.2
  | 0 => by
    have h1 : SixR (oneG t false (fun _ => .error 0) (fun _ => .error 0)) := SixR.one (al := false) (fun z => absurd z (by decide)) (fun z => absurd z (by decide))
    have h2 : SixR (notG t false (fun _ => .error 0) (addG t (oneG t false (fun _ => .error 0) (fun _ => .error 0)))) := SixR.not (al := false) (fun z => absurd z (by decide)) (SixR.chain (SixR.chain h1))
    exact ⟨h1, SixR.chain (SixR.chain h2), h2⟩
  | k + 1 => by
    obtain ⟨i1, i2, i3⟩ := gram_six t k
    have h1 : SixR (oneG t true (gram t k).1 (gram t k).2.1) := SixR.one (al := true) (fun _ => i1) (fun _ => i2)
    have h2 : SixR (notG t true (gram t k).2.2 (addG t (oneG t true (gram t k).1 (gram t k).2.1))) := SixR.not (al := true) (fun _ => i3) (SixR.chain (SixR.chain h1))
    exact ⟨h1, SixR.chain (SixR.chain h2), h2⟩
theorem part_six (t : TB) (key : Int64) : SixR (partG t key) := by
  intro p r h
  unfold partG at h
  split at h
  · cases e : (gram t 5).2.1 (tk t p).2.2.2 with
    | error x => rw [e] at h; cases h
    | ok r1 =>
      rw [e] at h
      dsimp only at h
      split at h
      · cases h; exact fun v v' hv => (gram_six t 5).2.1 _ _ e v v' hv
      · cases h
  · cases h
theorem text_six (t : TB) {r : (List Int32 × Ev) × (List Int32 × Ev) × (List Int32 × Ev)} (h : textG t = .ok r) : six r.1.2 ∧ six r.2.1.2 ∧ six r.2.2.2 := by
  unfold textG at h
  cases e1 : partG t 2436392 0 with
  | error x => rw [e1] at h; cases h
  | ok a =>
    rw [e1] at h
    dsimp only at h
    cases e2 : partG t 8863997 a.2.2 with
    | error x => rw [e2] at h; cases h
    | ok b =>
      rw [e2] at h
      dsimp only at h
      cases e3 : partG t 307058 b.2.2 with
      | error x => rw [e3] at h; cases h
      | ok c =>
        rw [e3] at h
        dsimp only at h
        split at h
        · cases h; exact ⟨part_six t _ _ _ e1, part_six t _ _ _ e2, part_six t _ _ _ e3⟩
        · cases h
theorem cg_rr {σ σ' : MSt} (h : Sm σ σ') : rr σ' = rr σ := by unfold rr; rw [h.2 4 (by omega), cg_txt h]
theorem ROk.sm {σ σ' : MSt} (h : ROk σ) (hs : Sm σ σ') : ROk σ' := by unfold ROk at h ⊢; rw [hs.2 4 (by omega), cg_txt hs]; exact h
theorem cg_sy {σ σ' : MSt} (hr : ROk σ) (h : Sm σ σ') (b wh : Int32) : sy σ' b wh = sy σ b wh := by
  unfold sy
  rw [cg_rr h]
  obtain ⟨r, e⟩ := hr
  have er : rr σ = r := by unfold rr; rw [e]
  obtain ⟨a1, a2, a3⟩ := text_six _ e
  rw [er, a1 _ _ (cg_envB h b), a2 _ _ (cg_envB h b), a3 _ _ (cg_envB h b)]
theorem cg_prc {σ σ' : MSt} (hr : ROk σ) (h : Sm σ σ') (b : Int32) : prc σ' b = prc σ b := by unfold prc; rw [cg_sy hr h]
theorem cg_dbt {σ σ' : MSt} (hr : ROk σ) (h : Sm σ σ') (b : Int32) : dbt σ' b = dbt σ b := by unfold dbt; rw [cg_sy hr h]
theorem cg_opn {σ σ' : MSt} (hr : ROk σ) (h : Sm σ σ') (b : Int32) : opn σ' b = opn σ b := by unfold opn; rw [cg_sy hr h]

set_option maxRecDepth 100000 in
set_option maxHeartbeats 2000000 in
theorem lp_falls {g : GC} {E : ME} {d m : Nat} {σ : MSt} {p1 p2 hd : Int32} {r : Int64} (hE : MEok E) (hd0 : 43 ≤ d) (h0 : MInv σ) (hr : ROk σ) (hp : vp_in p1 24) (h20 : σ.1 20 = nI m) (hm : m ≤ 24) (hv : r = flN σ p1 hd m * p2.toInt64 / 100) : ∀ (n k : Nat) (s : MSt), k ≤ m → m - k < n → Sm σ s → MW g E cX10_falls 7 (some .long) "falls" d (fun v σ' => v = some (.long r) ∧ Sm σ σ') 36 [(0, .ref E.2.2), (1, .int p1), (2, .int p2), (3, .int hd), (4, .long (flN σ p1 hd k)), (6, .int (nI k))] [] s := by
  intro n
  induction n with
  | zero => intro k s _ h; exact absurd h (Nat.not_lt_zero _)
  | succ n ih =>
    intro k s hk hn hs
    obtain ⟨f1, w1, A1⟩ := s
    have hA : A1 = σ.2.2 := hs.1
    subst hA
    refine r_iload dX10_falls_36 rfl ?_
    refine r_aload_n dX10_falls_38 rfl ?_
    refine m_get dX10_falls_39 fl_RX10_174 rfl ?_
    rw [hs.2 20 (by omega), h20]
    refine r_icmp_ge (tgt := 103) dX10_falls_42 (by decide) (fun c => ?_) (fun c => ?_)
    · have : m ≤ k := (nI_leI (by omega) (by omega)).mp c
      have e : k = m := by omega
      subst e
      refine r_lload dX10_falls_103 rfl ?_
      refine r_iload_n dX10_falls_105 rfl ?_
      refine r_i2l dX10_falls_106 ?_
      refine r_lmul dX10_falls_107 ?_
      refine r_ldc2 dX10_falls_108 kc_RX10_172 ?_
      refine r_ldiv dX10_falls_111 (by decide) ?_
      refine r_lret dX10_falls_112 rfl ?_
      exact ⟨_, rfl, by rw [hv], hs⟩
    · have hlt : k < m := by rcases Nat.lt_or_ge k m with q | q; exact q; exact absurd (nI_le q (by omega)) c
      have hb : vp_in (nI k) 24 := vp_in_nI (by omega) (by decide)
      have ek : (nI k).toNatClampNeg = k := nI_clamp (by omega)
      have hmi := h0.sm hs
      refine r_lload dX10_falls_45 rfl ?_
      refine r_aload_n dX10_falls_47 rfl ?_
      refine m_get dX10_falls_48 fl_RX10_50 rfl ?_
      refine r_iload dX10_falls_51 rfl ?_
      refine m_iald (k := 17) (N := 24) hE (by decide) rfl rfl dX10_falls_53 hb ?_
      rw [ek]
      refine r_aload_n dX10_falls_54 rfl ?_
      refine m_get dX10_falls_55 fl_RX10_50 rfl ?_
      refine r_iload_n dX10_falls_58 rfl ?_
      refine m_iald (k := 17) (N := 24) hE (by decide) rfl rfl dX10_falls_59 hp ?_
      refine r_icmp_eq (tgt := 74) dX10_falls_60 (by decide) (fun c1 => ?_) (fun c1 => ?_)
      · refine r_aload_n dX10_falls_74 rfl ?_
        refine r_iload dX10_falls_75 rfl ?_
        refine m_callW dX10_falls_77 mf_X10_isBarred ml_RX10_209 (ok_X10_isBarred (d := d - 1) hE (by omega) _ _ hmi hb) rfl rfl rfl (Nat.le_of_ble_eq_true rfl) (by omega) ?_
        rw [cg_isBarred hs]
        refine r_if_ne (tgt := 93) dX10_falls_80 (by decide) (fun c3 => ?_) (fun c3 => ?_)
        · refine r_lconst (v := 0) dX10_falls_93 (by decide) ?_
          refine r_ladd dX10_falls_94 ?_
          refine r_lstore dX10_falls_95 (by decide) ?_
          refine r_iinc2 (w := 1) dX10_falls_97 rfl (by decide) (by decide) ?_
          refine r_goto (tgt := 36) dX10_falls_100 (by decide) ?_
          refine r_loc (L' := [(0, .ref E.2.2), (1, .int p1), (2, .int p2), (3, .int hd), (4, .long (flN σ p1 hd (k + 1))), (6, .int (nI (k + 1)))]) [2, 3, 4, 5, 1, 0] (by rw [flN, if_neg (fun q => c3 q.2), ← nI_1]; rfl) ?_
          exact ih (k + 1) _ (by omega) (by omega) hs
        · refine r_aload_n dX10_falls_83 rfl ?_
          refine r_iload dX10_falls_84 rfl ?_
          refine m_call (As := [.int (nI k)]) dX10_falls_86 mf_X10_priceOf ml_RX10_224 (mk_priceOf (d := d - 1) hE (by omega) _ _ hmi hb (hr.sm hs)) rfl rfl rfl (Nat.le_of_ble_eq_true rfl) (by omega) (fun v s2 k2 => ?_)
          obtain ⟨rfl, hs2⟩ := k2
          rw [cg_prc hr hs]
          refine r_i2l dX10_falls_89 ?_
          refine r_goto (tgt := 94) dX10_falls_90 (by decide) ?_
          refine r_ladd dX10_falls_94 ?_
          refine r_lstore dX10_falls_95 (by decide) ?_
          refine r_iinc2 (w := 1) dX10_falls_97 rfl (by decide) (by decide) ?_
          refine r_goto (tgt := 36) dX10_falls_100 (by decide) ?_
          refine r_loc (L' := [(0, .ref E.2.2), (1, .int p1), (2, .int p2), (3, .int hd), (4, .long (flN σ p1 hd (k + 1))), (6, .int (nI (k + 1)))]) [2, 3, 4, 5, 1, 0] (by rw [flN, if_pos ⟨Or.inl c1, c3⟩, ← nI_1]; rfl) ?_
          exact ih (k + 1) _ (by omega) (by omega) (hs.tr hs2)
      · refine r_aload_n dX10_falls_63 rfl ?_
        refine r_iload dX10_falls_64 rfl ?_
        refine m_callW dX10_falls_66 mf_X10_handsOf ml_RX10_425 (ok_X10_handsOf (d := d - 1) hE (by omega) _ _ hmi) rfl rfl rfl (Nat.le_of_ble_eq_true rfl) (by omega) ?_
        rw [cg_hands hs]
        refine r_iload_n dX10_falls_69 rfl ?_
        refine r_iand dX10_falls_70 ?_
        refine r_if_eq (tgt := 93) dX10_falls_71 (by decide) (fun c2 => ?_) (fun c2 => ?_)
        · refine r_lconst (v := 0) dX10_falls_93 (by decide) ?_
          refine r_ladd dX10_falls_94 ?_
          refine r_lstore dX10_falls_95 (by decide) ?_
          refine r_iinc2 (w := 1) dX10_falls_97 rfl (by decide) (by decide) ?_
          refine r_goto (tgt := 36) dX10_falls_100 (by decide) ?_
          refine r_loc (L' := [(0, .ref E.2.2), (1, .int p1), (2, .int p2), (3, .int hd), (4, .long (flN σ p1 hd (k + 1))), (6, .int (nI (k + 1)))]) [2, 3, 4, 5, 1, 0] (by rw [flN, if_neg (fun q => q.1.elim (fun y => c1 y) (fun y => y c2)), ← nI_1]; rfl) ?_
          exact ih (k + 1) _ (by omega) (by omega) hs
        · refine r_aload_n dX10_falls_74 rfl ?_
          refine r_iload dX10_falls_75 rfl ?_
          refine m_callW dX10_falls_77 mf_X10_isBarred ml_RX10_209 (ok_X10_isBarred (d := d - 1) hE (by omega) _ _ hmi hb) rfl rfl rfl (Nat.le_of_ble_eq_true rfl) (by omega) ?_
          rw [cg_isBarred hs]
          refine r_if_ne (tgt := 93) dX10_falls_80 (by decide) (fun c3 => ?_) (fun c3 => ?_)
          · refine r_lconst (v := 0) dX10_falls_93 (by decide) ?_
            refine r_ladd dX10_falls_94 ?_
            refine r_lstore dX10_falls_95 (by decide) ?_
            refine r_iinc2 (w := 1) dX10_falls_97 rfl (by decide) (by decide) ?_
            refine r_goto (tgt := 36) dX10_falls_100 (by decide) ?_
            refine r_loc (L' := [(0, .ref E.2.2), (1, .int p1), (2, .int p2), (3, .int hd), (4, .long (flN σ p1 hd (k + 1))), (6, .int (nI (k + 1)))]) [2, 3, 4, 5, 1, 0] (by rw [flN, if_neg (fun q => c3 q.2), ← nI_1]; rfl) ?_
            exact ih (k + 1) _ (by omega) (by omega) hs
          · refine r_aload_n dX10_falls_83 rfl ?_
            refine r_iload dX10_falls_84 rfl ?_
            refine m_call (As := [.int (nI k)]) dX10_falls_86 mf_X10_priceOf ml_RX10_224 (mk_priceOf (d := d - 1) hE (by omega) _ _ hmi hb (hr.sm hs)) rfl rfl rfl (Nat.le_of_ble_eq_true rfl) (by omega) (fun v s2 k2 => ?_)
            obtain ⟨rfl, hs2⟩ := k2
            rw [cg_prc hr hs]
            refine r_i2l dX10_falls_89 ?_
            refine r_goto (tgt := 94) dX10_falls_90 (by decide) ?_
            refine r_ladd dX10_falls_94 ?_
            refine r_lstore dX10_falls_95 (by decide) ?_
            refine r_iinc2 (w := 1) dX10_falls_97 rfl (by decide) (by decide) ?_
            refine r_goto (tgt := 36) dX10_falls_100 (by decide) ?_
            refine r_loc (L' := [(0, .ref E.2.2), (1, .int p1), (2, .int p2), (3, .int hd), (4, .long (flN σ p1 hd (k + 1))), (6, .int (nI (k + 1)))]) [2, 3, 4, 5, 1, 0] (by rw [flN, if_pos ⟨Or.inr c2, c3⟩, ← nI_1]; rfl) ?_
            exact ih (k + 1) _ (by omega) (by omega) (hs.tr hs2)

set_option maxRecDepth 100000 in
set_option maxHeartbeats 2000000 in
theorem mk_falls {g : GC} {E : ME} {d : Nat} (hE : MEok E) (hd0 : 43 ≤ d) (σ : MSt) (p1 p2 : Int32) (h0 : MInv σ) (hr : ROk σ) : MC g E d yX10_falls cX10_falls 7 (some .long) [.int p1, .int p2] (fun v σ' => v = some (.long (fFalls σ p1 p2)) ∧ Sm σ σ') σ := by
  obtain ⟨m, hm, h20⟩ := h0.nb
  refine AM.of2 (own := RX10) (nm := "falls") (L0 := [(0, .ref E.2.2), (1, .int p1), (2, .int p2)]) (by decide) rfl rfl (Nat.le_of_ble_eq_true rfl) rfl ?_
  refine r_aload_n dX10_falls_0 rfl ?_
  refine r_iload_n dX10_falls_1 rfl ?_
  refine m_callW dX10_falls_2 mf_X10_isBottle ml_RX10_186 (ok_X10_isBottle (d := d - 1) hE (by omega) _ _) rfl rfl rfl (Nat.le_of_ble_eq_true rfl) (by omega) ?_
  refine r_if_eq (tgt := 20) dX10_falls_5 (by decide) (fun c => ?_) (fun c => ?_)
  · refine r_ldc2 dX10_falls_20 kc_RX10_398 ?_
    refine r_lret dX10_falls_23 rfl ?_
    exact ⟨_, rfl, by unfold fFalls; rw [if_pos c], Sm.rf _⟩
  · refine r_iload_n dX10_falls_8 rfl ?_
    refine r_i2l dX10_falls_9 ?_
    refine r_lconst (v := 0) dX10_falls_10 (by decide) ?_
    refine r_ldc2 dX10_falls_11 kc_RX10_172 ?_
    refine m_callS dX10_falls_14 mf_X10_in ml_RX10_149 (ok_X10_in (d := d - 1) (by omega) _ _ _) rfl rfl (Nat.le_of_ble_eq_true rfl) (by omega) ?_
    refine r_if_ne (tgt := 24) dX10_falls_17 (by decide) (fun c1 => ?_) (fun c1 => ?_)
    · refine r_aload_n dX10_falls_24 rfl ?_
      refine r_iload_n dX10_falls_25 rfl ?_
      refine m_callW dX10_falls_26 mf_X10_handsOf ml_RX10_425 (ok_X10_handsOf (d := d - 1) hE (by omega) _ _ h0) rfl rfl rfl (Nat.le_of_ble_eq_true rfl) (by omega) ?_
      refine W_gen (fun hd ehd => ?_)
      refine r_istore_n dX10_falls_29 (by decide) ?_
      refine r_lconst (v := 0) dX10_falls_30 (by decide) ?_
      refine r_lstore dX10_falls_31 (by decide) ?_
      refine r_iconst (v := 0) dX10_falls_33 (by decide) ?_
      refine r_istore dX10_falls_34 (by decide) ?_
      refine r_loc (L' := [(0, .ref E.2.2), (1, .int p1), (2, .int p2), (3, .int hd), (4, .long (flN σ p1 hd 0)), (6, .int (nI 0))]) [3, 4, 5, 2, 1, 0] rfl ?_
      exact lp_falls hE (by omega) h0 hr (isBottle_in h0 c) h20 hm (by unfold fFalls; rw [if_neg c, if_neg c1, ← ehd, h20, nI_clamp (by omega)]) 26 0 σ (Nat.zero_le _) (by omega) (Sm.rf σ)
    · refine r_ldc2 dX10_falls_20 kc_RX10_398 ?_
      refine r_lret dX10_falls_23 rfl ?_
      exact ⟨_, rfl, by unfold fFalls; rw [if_neg c, if_pos c1], Sm.rf _⟩
