def xTab : Nat → String × List Int32
  | 0 => ("UNDER", [-1, 0, 0, 1, 2, 0])
  | 1 => ("WEIGHTS", [2, 5, 2, 3, 1, 1])
  | _ => ("SHOWN_AS_WINE", [0, 7, 1, 3, 3, 0])
def tabV (k j : Nat) : Int32 := (xTab k).2.getD j 0
/-- words that hold, but are no callee's -/
def xNw : List Cond := [(Cond.methodLinkNest "OldBottles$Bottle" (37 : Nat) ({ cls := "OldBottles", name := "isUpTo", desc := "(II)Z" } : MethodName) "OldBottles"),
  (Cond.fieldLinkNest "OldBottles$Bottle" (41 : Nat) "OldBottles" "SHOWN_AS_WINE" "[I" "OldBottles"),
  (Cond.methodLinkNest "OldBottles$Bottle" (45 : Nat) ({ cls := "OldBottles", name := "partOf", desc := "(II)I" } : MethodName) "OldBottles"),
  (Cond.methodLinkNest "OldBottles$Book" (37 : Nat) ({ cls := "OldBottles", name := "partOf", desc := "(II)I" } : MethodName) "OldBottles"),
  (Cond.methodLinkNest "OldBottles$Bottle" (58 : Nat) ({ cls := "OldBottles", name := "isOfKind", desc := "(II)Z" } : MethodName) "OldBottles"),
  (Cond.castable "[I" "java/lang/Cloneable")]
/-- the String constants' places and bytes: FIRST_RULE, WORDS, SIGNS -/
def xTx : Nat → String × Nat × String × List Int32
  | 0 => (RX9, 82, "doubt bars * 20 + odd * 5 + gap ; price made - sold * 2 + 100 ; open 10 + odd ;", [100, 111, 117, 98, 116, 32, 98, 97, 114, 115, 32, 42, 32, 50, 48, 32, 43, 32, 111, 100, 100, 32, 42, 32, 53, 32, 43, 32, 103, 97, 112, 32, 59, 32, 112, 114, 105, 99, 101, 32, 109, 97, 100, 101, 32, 45, 32, 115, 111, 108, 100, 32, 42, 32, 50, 32, 43, 32, 49, 48, 48, 32, 59, 32, 111, 112, 101, 110, 32, 49, 48, 32, 43, 32, 111, 100, 100, 32, 59])
  | 1 => (RX4, 111, "bars odd gap year made sold doubt price open or and not ", [98, 97, 114, 115, 32, 111, 100, 100, 32, 103, 97, 112, 32, 121, 101, 97, 114, 32, 109, 97, 100, 101, 32, 115, 111, 108, 100, 32, 100, 111, 117, 98, 116, 32, 112, 114, 105, 99, 101, 32, 111, 112, 101, 110, 32, 111, 114, 32, 97, 110, 100, 32, 110, 111, 116, 32])
  | _ => (RX4, 104, "();+-*<=", [40, 41, 59, 43, 45, 42, 60, 61])
def xLen : List Nat := [79, 56, 8]
def xByt : List (List Int32) := [(xTx 0).2.2.2, (xTx 1).2.2.2, (xTx 2).2.2.2]
def GX (g : GC) : Prop := ((∀ k, k < 3 → ∃ t : Nat, RZ g RX9 (xTab k).1 "[I" (.ref t) ∧ RT g .int t 6 (fun j => .int (tabV k j))) ∧ (∀ w ∈ xNw, ∀ s, gR g s → va_Nw w s) ∧ (∀ C ∈ [RX8, RX1, RX5, RX7, RX6], ∀ s, gR g s → va_AO C s)) ∧
  RZ g "java/lang/String" "COMPACT_STRINGS" "Z" (.int 1) ∧ (∃ v : Value, (v = .null ∨ ∃ a, v = .ref a) ∧ RZ g "jdk/internal/util/Preconditions" "SIOOBE_FORMATTER" "Ljava/util/function/BiFunction;" v) ∧
  ∃ adK adV : Nat → Nat, (∀ s, gR g s → vk_S 3 xLen xByt adK adV (gF g) s s.heap) ∧ ∀ k, k < 3 → ∀ s, gR g s → vk_R (xTx k).1 (xTx k).2.1 (xTx k).2.2.1 (adK k) s
theorem GX.tab {g : GC} (h : GX g) (k : Nat) (hk : k < 3) : ∃ t : Nat, RZ g RX9 (xTab k).1 "[I" (.ref t) ∧ RT g .int t 6 (fun j => .int (tabV k j)) := h.1.1 k hk
theorem GX.nw {g : GC} (h : GX g) (w : Cond) (hw : w ∈ xNw) : ∀ s, gR g s → va_Nw w s := h.1.2.1 w hw
theorem GX.ao {g : GC} (h : GX g) (C : String) (hw : C ∈ [RX8, RX1, RX5, RX7, RX6]) : ∀ s, gR g s → va_AO C s := h.1.2.2 C hw
theorem sl_RJ0_1053 : Cond.fieldLink RJ0 1053 "jdk/internal/util/Preconditions" "SIOOBE_FORMATTER" "Ljava/util/function/BiFunction;" ∈ tb := tb_at 293 (by decide +kernel) (by decide +kernel)
theorem sl_RJ0_38 : Cond.fieldLink RJ0 38 "java/lang/String" "COMPACT_STRINGS" "Z" ∈ tb := tb_at 277 (by decide +kernel) (by decide +kernel)
theorem ml0_RJ7_316 : Cond.methodLink RJ7 316 ⟨"[I", "clone", "()Ljava/lang/Object;"⟩ ∈ tb := tb_at 456 (by decide +kernel) (by decide +kernel)
theorem cl_RJ7_317 : Cond.classLink RJ7 317 "[I" ∈ tb := tb_at 462 (by decide +kernel) (by decide +kernel)
theorem ml0_RJ7_150 : Cond.methodLink RJ7 150 arraycopyName ∈ tb := tb_at 464 (by decide +kernel) (by decide +kernel)
theorem ml0_RX0_49 : Cond.methodLink RX0 49 arraycopyName ∈ tb := tb_at 870 (by decide +kernel) (by decide +kernel)
theorem ml0_RX9_354 : Cond.methodLink RX9 354 arraycopyName ∈ tb := tb_at 924 (by decide +kernel) (by decide +kernel)
theorem cl_RX9_9 : Cond.classLink RX9 9 "OldBottles$Wine" ∈ tb := tb_at 98 (by decide +kernel) (by decide +kernel)
theorem cl_RX9_15 : Cond.classLink RX9 15 "OldBottles$Bottle" ∈ tb := tb_at 100 (by decide +kernel) (by decide +kernel)
theorem cl_RX9_21 : Cond.classLink RX9 21 "OldBottles$Rule" ∈ tb := tb_at 102 (by decide +kernel) (by decide +kernel)
theorem cl_RX9_48 : Cond.classLink RX9 48 "OldBottles$Tongue" ∈ tb := tb_at 193 (by decide +kernel) (by decide +kernel)
theorem cl_RX9_54 : Cond.classLink RX9 54 "OldBottles$Sheet" ∈ tb := tb_at 195 (by decide +kernel) (by decide +kernel)
theorem sl_RX9_369 : Cond.fieldLink RX9 369 "OldBottles" "UNDER" "[I" ∈ tb := tb_at 774 (by decide +kernel) (by decide +kernel)
theorem sl_RX9_366 : Cond.fieldLink RX9 366 "OldBottles" "WEIGHTS" "[I" ∈ tb := tb_at 688 (by decide +kernel) (by decide +kernel)
theorem kw_RJ6_265 : Cond.constant RJ6 265 (1431655765 : Int32) ∈ tb := tb_at 701 (by decide +kernel) (by decide +kernel)
theorem kw_RJ6_266 : Cond.constant RJ6 266 (858993459 : Int32) ∈ tb := tb_at 702 (by decide +kernel) (by decide +kernel)
theorem kw_RJ6_267 : Cond.constant RJ6 267 (252645135 : Int32) ∈ tb := tb_at 703 (by decide +kernel) (by decide +kernel)
theorem cpN : Cond.native arraycopyName ∈ tb := tb_at 466 (by decide +kernel) (by decide +kernel)
theorem cpS : Cond.static arraycopyName ∈ tb := tb_at 465 (by decide +kernel) (by decide +kernel)
theorem cpI : Cond.initialized "java/lang/System" ∈ tb := tb_at 85 (by decide +kernel) (by decide +kernel)
theorem sf_RJ0_9 : Cond.fieldLink RJ0 9 "java/lang/String" "value" "[B" ∈ tb := tb_at 1481 (by decide +kernel) (by decide +kernel)
theorem sf_RJ0_15 : Cond.fieldLink RJ0 15 "java/lang/String" "coder" "B" ∈ tb := tb_at 1482 (by decide +kernel) (by decide +kernel)
theorem hu_hu (h : hH) (a : Nat) (e e' : hE) : hu (hu h a e) a e' = hu h a e' := by
  funext q
  by_cases hq : q = a
  · subst hq; rw [hu_eq, hu_eq]
  · rw [hu_ne hq, hu_ne hq, hu_ne hq]
theorem hu_id {h : hH} {a : Nat} {e : hE} (ha : h a = some e) : hu h a e = h := by
  funext q
  by_cases hq : q = a
  · subst hq; rw [hu_eq, ha]
  · rw [hu_ne hq]
def fillF (N : Nat) (v : Int32) (f : Nat → Int32) : Nat → Int32 := fun j => if j < N then v else f j
theorem fillF_0 (v : Int32) (f : Nat → Int32) : fillF 0 v f = f := by
  funext j
  unfold fillF
  rw [if_neg (Nat.not_lt_zero j)]
theorem fillF_1 (k : Nat) (v : Int32) (f : Nat → Int32) : upd (fillF k v f) k v = fillF (k + 1) v f := by
  funext j
  unfold fillF upd
  by_cases h : j = k
  · rw [if_pos h, if_pos (by omega)]
  · rw [if_neg h]
    show (if j < k then v else f j) = _
    by_cases h2 : j < k
    · rw [if_pos h2, if_pos (by omega)]
    · rw [if_neg h2, if_neg (by omega)]
theorem fill_lp {g : GC} {h : hH} {a N d : Nat} {v : Int32} {f : Nat → Int32} (hN : N < 1000000) : ∀ m k, k + m = N → AW g RJ7 cJ7_fill_53178 4 none "fill" d 0 0 (fun r h' => r = none ∧ h' = hu h a (.inl (0, N, .inl (fillF N v f)))) 5 [(3, .int (nI N)), (2, .int (nI k)), (0, .ref a), (1, .int v)] [] (hu h a (.inl (0, N, .inl (fillF k v f)))) := by
  intro m
  induction m with
  | zero =>
    intro k hk
    have e : k = N := by omega
    subst e
    refine r_iload_n dJ7_fill_53178_5 rfl ?_
    refine r_iload_n dJ7_fill_53178_6 rfl ?_
    refine r_icmp_ge (tgt := 20) dJ7_fill_53178_7 (by decide) (fun c => ?_) (fun c => absurd (Int32.le_refl _) c)
    exact r_vret dJ7_fill_53178_20 rfl ⟨rfl, rfl⟩
  | succ m ih =>
    intro k hk
    have hk' : k < N := by omega
    refine r_iload_n dJ7_fill_53178_5 rfl ?_
    refine r_iload_n dJ7_fill_53178_6 rfl ?_
    refine r_icmp_ge (tgt := 20) dJ7_fill_53178_7 (by decide) (fun c => absurd ((nI_leI (by omega) (by omega)).mp c) (by omega)) (fun c => ?_)
    refine r_aload_n dJ7_fill_53178_10 rfl ?_
    refine r_iload_n dJ7_fill_53178_11 rfl ?_
    refine r_iload_n dJ7_fill_53178_12 rfl ?_
    refine r_iast dJ7_fill_53178_13 (hu_eq _ _ _) (vp_in_nI hk' (by omega)) ?_
    rw [hu_hu, nI_clamp (by omega), fillF_1]
    refine r_iinc2 (w := 1) dJ7_fill_53178_14 rfl (by decide) (by decide) ?_
    refine r_goto (tgt := 5) dJ7_fill_53178_17 (by decide) ?_
    refine r_loc (L' := [(3, .int (nI N)), (2, .int (nI (k + 1))), (0, .ref a), (1, .int v)]) [1, 0, 2, 3] (by rw [← nI_1]; rfl) ?_
    exact ih (k + 1) (by omega)
theorem ok_fill {g : GC} {h : hH} {a N d : Nat} {v : Int32} {f : Nat → Int32} (ha : h a = some (.inl (0, N, .inl f))) (hN : N < 1000000) : AM g d 0 0 yJ7_fill_53178 cJ7_fill_53178 4 none [.ref a, .int v] h (fun r h' => r = none ∧ h' = hu h a (.inl (0, N, .inl (fillF N v f)))) := by
  refine AM.of2 (own := RJ7) (nm := "fill") (L0 := [(0, .ref a), (1, .int v)]) (by decide) rfl rfl (Nat.le_of_ble_eq_true rfl) rfl ?_
  refine r_iconst (v := (0 : Int32)) dJ7_fill_53178_0 (by decide) ?_
  refine r_istore_n dJ7_fill_53178_1 (by decide) ?_
  refine r_aload_n dJ7_fill_53178_2 rfl ?_
  refine r_alen (t0 := 0) dJ7_fill_53178_3 ha rfl ?_
  refine r_istore_n dJ7_fill_53178_4 (by decide) ?_
  have e : hu h a (.inl (0, N, .inl (fillF 0 v f))) = h := by rw [fillF_0]; exact hu_id ha
  have k := fill_lp (g := g) (h := h) (a := a) (N := N) (d := d) (v := v) (f := f) hN N 0 (by omega)
  rw [e] at k
  exact k
section XR2
variable {g : GC} {B : hH} {am : XAd} {S : XSh} {own : String} {cc : ByteArray} {nL : Nat} {ret : Option FieldType} {nm : String} {d : Nat} {K : Option Value → XSt → Prop} {pc : Nat} {L : List (Nat × Value)} {rest : List Value} {σ : XSt}
theorem x_fill {c i N idx : Nat} {v : Int32} (hE : XOk am S) (hc : ∀ f a, yE am S c i f a = .inl (0, N, .inl a)) (hd : decode cc pc = .ok (.invokestatic idx, 3)) (hlk : Cond.methodLink own idx yJ7_fill_53178 ∈ tb) (hl : i < lim S c) (hd1 : 1 ≤ d) (hcat : (rest.map fun v => v.category).sum ≤ 8) (hN : N < 1000000) (kk : XW g B am S own cc nL ret nm d K (pc + 3) L rest (xb σ c i (fillF N v (σ.2 c i)))) : XW g B am S own cc nL ret nm d K pc L (.int v :: .ref (am c i) :: rest) σ := by
  refine r_callS (As := [.ref (am c i), .int v]) (c1 := 0) (n1 := 0) (d1 := d - 1) hd mf_J7_fill_53178 hlk (ok_fill (f := σ.2 c i) ((xH_at hE σ hl).trans (congrArg some (hc _ _))) hN) rfl rfl hcat (by omega) (Nat.le_refl 0) (Nat.le_refl 0) (fun v' h' hh => ?_)
  obtain ⟨rfl, rfl⟩ := hh
  rw [xH_set hE (σ := σ) (σ' := xb σ c i (fillF N v (σ.2 c i))) hl (xE_b σ _) (by
    show _ = yE am S c i (σ.1 c i) (up3a σ.2 c i _ c i)
    rw [up3a_self, hc])]
  exact kk
end XR2
section R7
variable {g : GC} {own : String} {cc : ByteArray} {nL : Nat} {ret : Option FieldType} {nm : String} {d c n : Nat} {K : Option Value → hH → Prop} {pc : Nat} {L : List (Nat × Value)} {rest : List Value} {h : hH}
theorem r_lookK {dflt : Int} {ps : Array (Int × Int)} {len : Nat} {x v : Int32} {off : Int} {tgt : Nat} (hd : decode cc pc = .ok (.lookupswitch dflt ps, len)) (hx : x = v) (hp : (ps.toList.zip (ps.toList.drop 1)).all (fun (a, next) => a.1 < next.1) = true) (ho : Op.lookupswitch.offset ps.toList dflt v.toInt = off) (ht : (pc : Int) + off = (tgt : Int)) (k : AW g own cc nL ret nm d c n K tgt L rest h) : AW g own cc nL ret nm d c n K pc L (.int x :: rest) h := by
  subst hx
  exact r_look hd hp ho ht k
theorem r_mmax {idx : Nat} {x y : Int32} (hd : decode cc pc = .ok (.invokestatic idx, 3)) (hl : Cond.methodLink own idx yJ9_max_7cf53 ∈ tb) (hcat : (rest.map fun v => v.category).sum ≤ 8) (hd1 : 1 ≤ d) (kk : AW g own cc nL ret nm d c n K (pc + 3) L (.int (if x < y then y else x) :: rest) h) : AW g own cc nL ret nm d c n K pc L (.int y :: .int x :: rest) h := by
  intro p e s m args below meth c1 H locs cells slots mc ms R ls X hH hS hl'
  obtain ⟨x1, x2, x3, x4, x5, x6, x7, x8, x9, x10, x11, x12, x13, x14, x15, x16, x17, x18⟩ := id X
  obtain ⟨m1, m3, m4, m5, m6⟩ := mf_J9_max_7cf53
  exact va_mmax x1 x2 (x3.trans hl'.1.symm) x7 (x8 _ hl) (x8 _ m1) (x8 _ m3) (x8 _ m4) (by omega) (by omega) (by omega) (by omega) hd (kk p e s m args below meth c1 H locs cells slots mc ms R ls X hH hS hl')
theorem r_mmin {idx : Nat} {x y : Int32} (hd : decode cc pc = .ok (.invokestatic idx, 3)) (hl : Cond.methodLink own idx yJ9_min_7cf53 ∈ tb) (hcat : (rest.map fun v => v.category).sum ≤ 8) (hd1 : 1 ≤ d) (kk : AW g own cc nL ret nm d c n K (pc + 3) L (.int (if y < x then y else x) :: rest) h) : AW g own cc nL ret nm d c n K pc L (.int y :: .int x :: rest) h := by
  intro p e s m args below meth c1 H locs cells slots mc ms R ls X hH hS hl'
  obtain ⟨x1, x2, x3, x4, x5, x6, x7, x8, x9, x10, x11, x12, x13, x14, x15, x16, x17, x18⟩ := id X
  obtain ⟨m1, m3, m4, m5, m6⟩ := mf_J9_min_7cf53
  exact va_mmin x1 x2 (x3.trans hl'.1.symm) x7 (x8 _ hl) (x8 _ m1) (x8 _ m3) (x8 _ m4) (by omega) (by omega) (by omega) (by omega) hd (kk p e s m args below meth c1 H locs cells slots mc ms R ls X hH hS hl')
theorem r_mabs {idx : Nat} {x : Int32} (hd : decode cc pc = .ok (.invokestatic idx, 3)) (hl : Cond.methodLink own idx yJ9_abs_0f7a4 ∈ tb) (hcat : (rest.map fun v => v.category).sum ≤ 8) (hd1 : 1 ≤ d) (kk : AW g own cc nL ret nm d c n K (pc + 3) L (.int (if 0 ≤ x then x else 0 - x) :: rest) h) : AW g own cc nL ret nm d c n K pc L (.int x :: rest) h := by
  intro p e s m args below meth c1 H locs cells slots mc ms R ls X hH hS hl'
  obtain ⟨x1, x2, x3, x4, x5, x6, x7, x8, x9, x10, x11, x12, x13, x14, x15, x16, x17, x18⟩ := id X
  obtain ⟨m1, m3, m4, m5, m6⟩ := mf_J9_abs_0f7a4
  exact va_mabs x1 x2 (x3.trans hl'.1.symm) x7 (x8 _ hl) (x8 _ m1) (x8 _ m3) (x8 _ m4) (by omega) (by omega) (by omega) (by omega) hd (kk p e s m args below meth c1 H locs cells slots mc ms R ls X hH hS hl')
end R7
def XInv (S : XSh) (σ : XSt) : Prop :=
  ((σ.1 9 0 1 = nI (S 0 0) ∧ S 0 0 ≤ 8) ∧ (σ.1 9 0 3 = nI (S 0 1) ∧ S 0 1 ≤ 24) ∧ σ.1 9 0 5 = nI (S 0 2) ∧ S 0 2 ≤ 6) ∧
  (∀ i, i < S 0 1 → S 1 i < S 0 0 ∧ S 2 i < S 0 0) ∧ Ct (σ.1 3 0 5) 40 ∧ (∀ i, i < (σ.1 3 0 5).toNatClampNeg → ∃ b : Nat, b < S 0 1 ∧ σ.2 23 0 i = nI b) ∧ Ct (σ.1 4 0 2) 160 ∧ (∀ i, i < 4 → Ct (σ.1 6 i 2) 40) ∧ (∀ i, i < S 0 2 → S 5 i ≤ 160) ∧ (∃ k : Nat, k ≤ S 0 0 ∧ σ.1 2 0 2 = nI k) ∧ (σ.1 2 0 4 = -1 ∨ ∃ k : Nat, k ≤ (σ.1 3 0 5).toNatClampNeg ∧ σ.1 2 0 4 = nI k)
section XI
variable {S : XSh} {σ : XSt}
theorem XInv.nw (h : XInv S σ) : σ.1 9 0 1 = nI (S 0 0) ∧ S 0 0 ≤ 8 := h.1.1
theorem XInv.nb (h : XInv S σ) : σ.1 9 0 3 = nI (S 0 1) ∧ S 0 1 ≤ 24 := h.1.2.1
theorem XInv.nr (h : XInv S σ) : σ.1 9 0 5 = nI (S 0 2) ∧ S 0 2 ≤ 6 := h.1.2.2
theorem XInv.lab (h : XInv S σ) {b : Nat} (hb : b < lim S 1) : S 1 b < lim S 8 := (h.2.1 b hb).1
theorem XInv.ins (h : XInv S σ) {b : Nat} (hb : b < lim S 1) : S 2 b < lim S 8 := (h.2.1 b hb).2
theorem XInv.ns (h : XInv S σ) : Ct (σ.1 3 0 5) 40 := h.2.2.1
theorem XInv.sb (h : XInv S σ) {i : Nat} (hi : i < (σ.1 3 0 5).toNatClampNeg) : ∃ b : Nat, b < S 0 1 ∧ σ.2 23 0 i = nI b := h.2.2.2.1 i hi
theorem XInv.tp (h : XInv S σ) : Ct (σ.1 4 0 2) 160 := h.2.2.2.2.1
theorem XInv.sh (h : XInv S σ) {i : Nat} (hi : i < lim S 6) : Ct (σ.1 6 i 2) 40 := h.2.2.2.2.2.1 i hi
theorem XInv.cl (h : XInv S σ) {i : Nat} (hi : i < lim S 5) : S 5 i ≤ 160 := h.2.2.2.2.2.2.1 i hi
theorem XInv.kw (h : XInv S σ) : ∃ k : Nat, k ≤ S 0 0 ∧ σ.1 2 0 2 = nI k := h.2.2.2.2.2.2.2.1
theorem XInv.ks (h : XInv S σ) : σ.1 2 0 4 = -1 ∨ ∃ k : Nat, k ≤ (σ.1 3 0 5).toNatClampNeg ∧ σ.1 2 0 4 = nI k := h.2.2.2.2.2.2.2.2
end XI
theorem ct40 : Ct 40 40 := ⟨40, Nat.le_refl _, rfl⟩
theorem ct160 : Ct 160 160 := ⟨160, Nat.le_refl _, rfl⟩
theorem ct9 : Ct 9 9 := ⟨9, Nat.le_refl _, rfl⟩
theorem ct100 : Ct 100 100 := ⟨100, Nat.le_refl _, rfl⟩
/-- counting up to and with b -/
theorem Ct.upL {l B : Int32} {N : Nat} (hN : N < 1000000) {b : Nat} (hB : B = nI b) (hb : b + 1 = N) (hl : Ct l N) (c : ¬ B < l) : vp_in l N ∧ Ct (l + 1) N ∧ N + 1 - (l + 1).toNatClampNeg < N + 1 - l.toNatClampNeg := by
  subst hB
  obtain ⟨k, hk, rfl⟩ := id hl
  have h1 : k ≤ b := (nI_leI (by omega) (by omega)).mp (Int32.not_lt.mp c)
  exact Ct.up hN ⟨N, Nat.le_refl _, rfl⟩ hl (fun q => by have := (nI_leI (by omega) (by omega)).mp q; omega)

