/-! the law's start -/
abbrev nrw : List Cond := flatC (Jvm.Cond.and given_1 narrow_1)
def lw_P (b : Addr) (xs : List Int32) (args : Array Value) (s : State) : Prop := args = #[.ref b] ∧ s.IntsAt b xs ∧ xs.length ≤ 3072 ∧ (Jvm.Cond.and given_1 narrow_1).before args s = true
def lw_Q (_ : Array Value) (s : State) (o : Outcome) (t : State) : Prop := o = .returned (some (.int 1)) ∧ Framed s o t [] 600000 7302250
def lw_Z (below : List Frame) (a : Array Value) (s : State) : State → Prop := fun t => ∃ o, t.status = .running ∧ Ended t below o ∧ lw_Q a s o t
/-- what holds at the law's entry -/
def lw_At (p : Program) (s : State) (m : MethodId) (meth : Method) (c : Code) (b L : Nat) (xs : Nat → Int32) : Prop :=
  p.tables.exec = Jvm.exec ∧ c.code = code ∧ meth.sig.returnType = ret ∧ c.maxLocals = 4 ∧ s.vm.findClass R_law = some m.cls ∧ (∀ w ∈ lw_tbl, w.before #[Value.ref b] s = true) ∧ va_X b L xs s s.heap ∧ b < s.heap.size ∧ meth.locks = false ∧ (Jvm.Cond.and given_1 narrow_1).before #[Value.ref b] s = true
/-- what only is read -/
def Rd (N0 : Nat) (tk adK adV : Nat → Nat) (v0 : Value) (b L : Nat) (xs : Nat → Int32) (U : State) : Prop :=
  (∀ k, k < 3 → va_Z RX9 (xTab k).1 "[I" (.ref (tk k)) (fun q => N0 ≤ q) U U.heap ∧ va_T .int (tk k) 6 (fun j => .int (tabV k j)) (fun q => N0 ≤ q) U U.heap) ∧ (∀ w ∈ xNw, va_Nw w U) ∧ (∀ C ∈ [RX8, RX1, RX5, RX7, RX6], va_AO C U) ∧ va_Z "java/lang/String" "COMPACT_STRINGS" "Z" (.int 1) (fun q => N0 ≤ q) U U.heap ∧ va_Z "jdk/internal/util/Preconditions" "SIOOBE_FORMATTER" "Ljava/util/function/BiFunction;" v0 (fun q => N0 ≤ q) U U.heap ∧ vk_S 3 xLen xByt adK adV (fun q => N0 ≤ q) U U.heap ∧ (∀ k, k < 3 → vk_R (xTx k).1 (xTx k).2.1 (xTx k).2.2.1 (adK k) U) ∧ va_T .int b L (fun j => .int (xs j)) (fun q => N0 ≤ q) U U.heap
theorem nw_warm {s U : State} (hW : s.WarmedH U.vm) (h : ∀ w ∈ xNw, va_Nw w s) : ∀ w ∈ xNw, va_Nw w U := by
  have n0 := h _ (List.mem_of_getElem? (l := xNw) (i := 0) rfl)
  have n1 := h _ (List.mem_of_getElem? (l := xNw) (i := 1) rfl)
  have n2 := h _ (List.mem_of_getElem? (l := xNw) (i := 2) rfl)
  have n3 := h _ (List.mem_of_getElem? (l := xNw) (i := 3) rfl)
  have n4 := h _ (List.mem_of_getElem? (l := xNw) (i := 4) rfl)
  have n5 := h _ (List.mem_of_getElem? (l := xNw) (i := 5) rfl)
  unfold xNw
  exact List.forall_mem_cons.mpr ⟨va_Nw.warmM hW n0, List.forall_mem_cons.mpr ⟨va_Nw.warmF hW n1, List.forall_mem_cons.mpr ⟨va_Nw.warmM hW n2, List.forall_mem_cons.mpr ⟨va_Nw.warmM hW n3, List.forall_mem_cons.mpr ⟨va_Nw.warmM hW n4, List.forall_mem_cons.mpr ⟨va_Nw.warmC hW n5, fun _ h => absurd h List.not_mem_nil⟩⟩⟩⟩⟩⟩
theorem Rd.ok {l : Launch} {D : va_G} {fA : Nat → ClassId} {N0 : Nat} {tk adK adV : Nat → Nat} {v0 : Value} {b L : Nat} {xs : Nat → Int32} : Rok (l, D, fA, N0, Rd N0 tk adK adV v0 b L xs) := by
  intro s U hW hh hR
  obtain ⟨r1, r2, r3, r4, r5, r6, r7, r8⟩ := hR
  have hA := hW.alike
  have hq : ∀ a : Nat, a < s.heap.size → ¬ (fun q : Nat => N0 ≤ q) a → U.heap[a]? = s.heap[a]? := fun a _ h => hh a (Nat.not_le.mp h)
  exact ⟨fun k hk => ⟨(va_Z.moved hA (r1 k hk).1).kept hq, (va_T.moved hA (r1 k hk).2).kept hq⟩, nw_warm hW r2, fun C hC => va_AO.moved hA (r3 C hC), (va_Z.moved hA r4).kept hq, (va_Z.moved hA r5).kept hq, (vk_S.moved hA r6).kept hq, fun k hk => vk_R.warm hW (r7 k hk), (va_T.moved hA r8).kept hq⟩
theorem Rd.gx {l : Launch} {D : va_G} {fA : Nat → ClassId} {N0 : Nat} {tk adK adV : Nat → Nat} {v0 : Value} {b L : Nat} {xs : Nat → Int32} (hv : v0 = .null ∨ ∃ a, v0 = .ref a) : GX (l, D, fA, N0, Rd N0 tk adK adV v0 b L xs) := by
  refine ⟨⟨fun k hk => ⟨tk k, fun s h => (h.1 k hk).1, fun s h => (h.1 k hk).2⟩, fun w hw s h => h.2.1 w hw, fun C hC s h => h.2.2.1 C hC⟩, fun s h => h.2.2.2.1, ⟨v0, hv, fun s h => h.2.2.2.2.1⟩, adK, adV, fun s h => h.2.2.2.2.2.1, fun k hk s h => h.2.2.2.2.2.2.1 k hk⟩
theorem arr_p {s : State} {args : Array Value} {ty : FieldType} (hp : ty = .int ∨ ty = .byte ∨ ty = .boolean) (h : (Cond.arrayClass ty).before args s = true) : ∃ cA : ClassId, ArrOfT s cA ty ∧ va_RA s cA ty := by
  obtain ⟨cA, kA, comp, h1, h2, h3⟩ := Cond.arrayClass_spec h
  refine ⟨cA, fun n z => ⟨fun k h => (by cases h), kA, h2, comp, h3⟩, ?_⟩
  rcases hp with rfl | rfl | rfl
  · exact h1
  · exact h1
  · exact h1
theorem arr_o {s : State} {args : Array Value} {C : String} (h : (Cond.arrayOver (.object C)).before args s = true) : ∃ cA : ClassId, ArrOfT s cA (.object C) ∧ va_RA s cA (.object C) := by
  obtain ⟨comp, c, k, h1, h2, h3, h4, h5⟩ := Cond.arrayOver_spec h
  exact ⟨c, fun n z => ⟨fun k h => (by cases h), k, h3, comp, h4⟩, k, comp, h3, h4, h1, h5⟩
abbrev tmS (i : Nat) : Term := Term.string (xTx i).1 (xTx i).2.1
abbrev tmV (i : Nat) : Term := Term.field (tmS i) "java/lang/String" "value" "[B"
abbrev tmT (k : Nat) : Term := Term.static RX9 (xTab k).1 "[I"
set_option maxRecDepth 100000 in
theorem nx_b0 : ∀ j, j < 79 → nrw[95 + j]? = some (Cond.eq (.elem (tmV 0) (.int (Int32.ofNat j))) (.int ((xByt.getD 0 []).getD j 0))) := by decide +kernel
set_option maxRecDepth 100000 in
theorem nx_b1 : ∀ j, j < 56 → nrw[178 + j]? = some (Cond.eq (.elem (tmV 1) (.int (Int32.ofNat j))) (.int ((xByt.getD 1 []).getD j 0))) := by decide +kernel
set_option maxRecDepth 100000 in
theorem nx_b2 : ∀ j, j < 8 → nrw[239 + j]? = some (Cond.eq (.elem (tmV 2) (.int (Int32.ofNat j))) (.int ((xByt.getD 2 []).getD j 0))) := by decide +kernel
set_option maxRecDepth 100000 in
theorem nx_t0 : ∀ j, j < 6 → nrw[30 + j]? = some (Cond.eq (.elem (tmT 0) (.int (Int32.ofNat j))) (.int (tabV 0 j))) := by decide +kernel
set_option maxRecDepth 100000 in
theorem nx_t1 : ∀ j, j < 6 → nrw[21 + j]? = some (Cond.eq (.elem (tmT 1) (.int (Int32.ofNat j))) (.int (tabV 1 j))) := by decide +kernel
set_option maxRecDepth 100000 in
theorem nx_t2 : ∀ j, j < 6 → nrw[12 + j]? = some (Cond.eq (.elem (tmT 2) (.int (Int32.ofNat j))) (.int (tabV 2 j))) := by decide +kernel
set_option maxRecDepth 100000 in
theorem nx_ex0 : (Cond.exactly (tmS 0) "java/lang/String") ∈ nrw := List.mem_of_getElem? (i := 91) (by decide +kernel)
set_option maxRecDepth 100000 in
theorem nx_co0 : (Cond.eq (.field (tmS 0) "java/lang/String" "coder" "B") (.int 0)) ∈ nrw := List.mem_of_getElem? (i := 92) (by decide +kernel)
set_option maxRecDepth 100000 in
theorem nx_ar0 : (Cond.arrayOf (tmV 0) .byte) ∈ nrw := List.mem_of_getElem? (i := 93) (by decide +kernel)
set_option maxRecDepth 100000 in
theorem nx_le0 : (Cond.eq (.length (tmV 0)) (.int (Int32.ofNat (xLen.getD 0 0)))) ∈ nrw := List.mem_of_getElem? (i := 94) (by decide +kernel)
set_option maxRecDepth 100000 in
theorem nx_ex1 : (Cond.exactly (tmS 1) "java/lang/String") ∈ nrw := List.mem_of_getElem? (i := 174) (by decide +kernel)
set_option maxRecDepth 100000 in
theorem nx_co1 : (Cond.eq (.field (tmS 1) "java/lang/String" "coder" "B") (.int 0)) ∈ nrw := List.mem_of_getElem? (i := 175) (by decide +kernel)
set_option maxRecDepth 100000 in
theorem nx_ar1 : (Cond.arrayOf (tmV 1) .byte) ∈ nrw := List.mem_of_getElem? (i := 176) (by decide +kernel)
set_option maxRecDepth 100000 in
theorem nx_le1 : (Cond.eq (.length (tmV 1)) (.int (Int32.ofNat (xLen.getD 1 0)))) ∈ nrw := List.mem_of_getElem? (i := 177) (by decide +kernel)
set_option maxRecDepth 100000 in
theorem nx_ex2 : (Cond.exactly (tmS 2) "java/lang/String") ∈ nrw := List.mem_of_getElem? (i := 235) (by decide +kernel)
set_option maxRecDepth 100000 in
theorem nx_co2 : (Cond.eq (.field (tmS 2) "java/lang/String" "coder" "B") (.int 0)) ∈ nrw := List.mem_of_getElem? (i := 236) (by decide +kernel)
set_option maxRecDepth 100000 in
theorem nx_ar2 : (Cond.arrayOf (tmV 2) .byte) ∈ nrw := List.mem_of_getElem? (i := 237) (by decide +kernel)
set_option maxRecDepth 100000 in
theorem nx_le2 : (Cond.eq (.length (tmV 2)) (.int (Int32.ofNat (xLen.getD 2 0)))) ∈ nrw := List.mem_of_getElem? (i := 238) (by decide +kernel)
set_option maxRecDepth 100000 in
theorem nx_ne01 : (Cond.not (Cond.eq (tmS 0) (tmS 1))) ∈ nrw := List.mem_of_getElem? (i := 234) (by decide +kernel)
set_option maxRecDepth 100000 in
theorem nx_ne02 : (Cond.not (Cond.eq (tmS 0) (tmS 2))) ∈ nrw := List.mem_of_getElem? (i := 247) (by decide +kernel)
set_option maxRecDepth 100000 in
theorem nx_ne12 : (Cond.not (Cond.eq (tmS 1) (tmS 2))) ∈ nrw := List.mem_of_getElem? (i := 248) (by decide +kernel)
set_option maxRecDepth 100000 in
theorem nx_ta0 : (Cond.arrayOf (tmT 0) .int) ∈ nrw := List.mem_of_getElem? (i := 28) (by decide +kernel)
set_option maxRecDepth 100000 in
theorem nx_tl0 : (Cond.eq (.length (tmT 0)) (.int (Int32.ofNat 6))) ∈ nrw := List.mem_of_getElem? (i := 29) (by decide +kernel)
set_option maxRecDepth 100000 in
theorem nx_ta1 : (Cond.arrayOf (tmT 1) .int) ∈ nrw := List.mem_of_getElem? (i := 19) (by decide +kernel)
set_option maxRecDepth 100000 in
theorem nx_tl1 : (Cond.eq (.length (tmT 1)) (.int (Int32.ofNat 6))) ∈ nrw := List.mem_of_getElem? (i := 20) (by decide +kernel)
set_option maxRecDepth 100000 in
theorem nx_ta2 : (Cond.arrayOf (tmT 2) .int) ∈ nrw := List.mem_of_getElem? (i := 10) (by decide +kernel)
set_option maxRecDepth 100000 in
theorem nx_tl2 : (Cond.eq (.length (tmT 2)) (.int (Int32.ofNat 6))) ∈ nrw := List.mem_of_getElem? (i := 11) (by decide +kernel)
set_option maxRecDepth 100000 in
theorem nx_cs : (Cond.eq (.static "java/lang/String" "COMPACT_STRINGS" "Z") (.int 1)) ∈ nrw := List.mem_of_getElem? (i := 4) (by decide +kernel)
set_option maxRecDepth 100000 in
theorem nx_si : (Cond.isRef (.static "jdk/internal/util/Preconditions" "SIOOBE_FORMATTER" "Ljava/util/function/BiFunction;")) ∈ nrw := List.mem_of_getElem? (i := 5) (by decide +kernel)
set_option maxRecDepth 100000 in
theorem lt_t0 : (Cond.laysStatic RX9 (xTab 0).1 "[I") ∈ lw_tbl := List.mem_of_getElem? (i := 775) (by decide +kernel)
set_option maxRecDepth 100000 in
theorem lt_t1 : (Cond.laysStatic RX9 (xTab 1).1 "[I") ∈ lw_tbl := List.mem_of_getElem? (i := 689) (by decide +kernel)
set_option maxRecDepth 100000 in
theorem lt_t2 : (Cond.laysStatic RX9 (xTab 2).1 "[I") ∈ lw_tbl := List.mem_of_getElem? (i := 616) (by decide +kernel)
set_option maxRecDepth 100000 in
theorem lt_cs : (Cond.laysStatic "java/lang/String" "COMPACT_STRINGS" "Z") ∈ lw_tbl := List.mem_of_getElem? (i := 278) (by decide +kernel)
set_option maxRecDepth 100000 in
theorem lt_si : (Cond.laysStatic "jdk/internal/util/Preconditions" "SIOOBE_FORMATTER" "Ljava/util/function/BiFunction;") ∈ lw_tbl := List.mem_of_getElem? (i := 294) (by decide +kernel)
set_option maxRecDepth 100000 in
theorem lt_iC : (Cond.initialized RX9) ∈ lw_tbl := List.mem_of_getElem? (i := 70) (by decide +kernel)
set_option maxRecDepth 100000 in
theorem lt_iS : (Cond.initialized "java/lang/String") ∈ lw_tbl := List.mem_of_getElem? (i := 78) (by decide +kernel)
set_option maxRecDepth 100000 in
theorem lt_iP : (Cond.initialized "jdk/internal/util/Preconditions") ∈ lw_tbl := List.mem_of_getElem? (i := 80) (by decide +kernel)
set_option maxRecDepth 100000 in
theorem lt_r0 : (Cond.stringRef (xTx 0).1 (xTx 0).2.1 (xTx 0).2.2.1) ∈ lw_tbl := List.mem_of_getElem? (i := 268) (by decide +kernel)
set_option maxRecDepth 100000 in
theorem lt_r1 : (Cond.stringRef (xTx 1).1 (xTx 1).2.1 (xTx 1).2.2.1) ∈ lw_tbl := List.mem_of_getElem? (i := 340) (by decide +kernel)
set_option maxRecDepth 100000 in
theorem lt_r2 : (Cond.stringRef (xTx 2).1 (xTx 2).2.1 (xTx 2).2.2.1) ∈ lw_tbl := List.mem_of_getElem? (i := 347) (by decide +kernel)
set_option maxRecDepth 100000 in
theorem lt_n0 : ∀ w, xNw[0]? = some w → w ∈ lw_tbl := fun w h => List.mem_of_getElem? (i := 614) (by rw [← h]; decide +kernel)
set_option maxRecDepth 100000 in
theorem lt_n1 : ∀ w, xNw[1]? = some w → w ∈ lw_tbl := fun w h => List.mem_of_getElem? (i := 615) (by rw [← h]; decide +kernel)
set_option maxRecDepth 100000 in
theorem lt_n2 : ∀ w, xNw[2]? = some w → w ∈ lw_tbl := fun w h => List.mem_of_getElem? (i := 617) (by rw [← h]; decide +kernel)
set_option maxRecDepth 100000 in
theorem lt_n3 : ∀ w, xNw[3]? = some w → w ∈ lw_tbl := fun w h => List.mem_of_getElem? (i := 675) (by rw [← h]; decide +kernel)
set_option maxRecDepth 100000 in
theorem lt_n4 : ∀ w, xNw[4]? = some w → w ∈ lw_tbl := fun w h => List.mem_of_getElem? (i := 814) (by rw [← h]; decide +kernel)
set_option maxRecDepth 100000 in
theorem lt_n5 : ∀ w, xNw[5]? = some w → w ∈ lw_tbl := fun w h => List.mem_of_getElem? (i := 461) (by rw [← h]; decide +kernel)
set_option maxRecDepth 100000 in
theorem lt_o8 : (Cond.arrayOver (.object RX8)) ∈ lw_tbl := List.mem_of_getElem? (i := 99) (by decide +kernel)
set_option maxRecDepth 100000 in
theorem lt_o1 : (Cond.arrayOver (.object RX1)) ∈ lw_tbl := List.mem_of_getElem? (i := 101) (by decide +kernel)
set_option maxRecDepth 100000 in
theorem lt_o5 : (Cond.arrayOver (.object RX5)) ∈ lw_tbl := List.mem_of_getElem? (i := 103) (by decide +kernel)
set_option maxRecDepth 100000 in
theorem lt_o7 : (Cond.arrayOver (.object RX7)) ∈ lw_tbl := List.mem_of_getElem? (i := 194) (by decide +kernel)
set_option maxRecDepth 100000 in
theorem lt_o6 : (Cond.arrayOver (.object RX6)) ∈ lw_tbl := List.mem_of_getElem? (i := 196) (by decide +kernel)
set_option maxRecDepth 100000 in
theorem lt_p_int : (Cond.arrayClass .int) ∈ lw_tbl := List.mem_of_getElem? (i := 124) (by decide +kernel)
set_option maxRecDepth 100000 in
theorem lt_p_byte : (Cond.arrayClass .byte) ∈ lw_tbl := List.mem_of_getElem? (i := 192) (by decide +kernel)
set_option maxRecDepth 100000 in
theorem lt_p_boolean : (Cond.arrayClass .boolean) ∈ lw_tbl := List.mem_of_getElem? (i := 1135) (by decide +kernel)
set_option maxRecDepth 100000 in
theorem lt_c0 : (Cond.instantiable RX0 3) ∈ lw_tbl := List.mem_of_getElem? (i := 105) (by decide +kernel)
set_option maxRecDepth 100000 in
theorem lt_c1 : (Cond.instantiable RX1 9) ∈ lw_tbl := List.mem_of_getElem? (i := 606) (by decide +kernel)
set_option maxRecDepth 100000 in
theorem lt_c2 : (Cond.instantiable RX2 5) ∈ lw_tbl := List.mem_of_getElem? (i := 198) (by decide +kernel)
set_option maxRecDepth 100000 in
theorem lt_c3 : (Cond.instantiable RX3 6) ∈ lw_tbl := List.mem_of_getElem? (i := 126) (by decide +kernel)
set_option maxRecDepth 100000 in
theorem lt_c4 : (Cond.instantiable RX4 9) ∈ lw_tbl := List.mem_of_getElem? (i := 157) (by decide +kernel)
set_option maxRecDepth 100000 in
theorem lt_c5 : (Cond.instantiable RX5 3) ∈ lw_tbl := List.mem_of_getElem? (i := 452) (by decide +kernel)
set_option maxRecDepth 100000 in
theorem lt_c6 : (Cond.instantiable RX6 3) ∈ lw_tbl := List.mem_of_getElem? (i := 250) (by decide +kernel)
set_option maxRecDepth 100000 in
theorem lt_c7 : (Cond.instantiable RX7 5) ∈ lw_tbl := List.mem_of_getElem? (i := 224) (by decide +kernel)
set_option maxRecDepth 100000 in
theorem lt_c8 : (Cond.instantiable RX8 6) ∈ lw_tbl := List.mem_of_getElem? (i := 544) (by decide +kernel)
set_option maxRecDepth 100000 in
theorem lt_c9 : (Cond.instantiable RX9 17) ∈ lw_tbl := List.mem_of_getElem? (i := 91) (by decide +kernel)
set_option maxRecDepth 100000 in
theorem lt_c10 : (Cond.instantiable RX10 60) ∈ lw_tbl := List.mem_of_getElem? (i := 935) (by decide +kernel)
set_option maxRecDepth 100000 in
set_option maxHeartbeats 4000000 in
theorem start_k {s : State} {b : Nat} (hts : ∀ w ∈ lw_tbl, w.before #[Value.ref b] s = true) : ∃ (D : va_G) (fA : Nat → ClassId), va_K D vwCl (tys fA) s := by
  have htb : ∀ w ∈ tb, w.before #[Value.ref b] s = true := fun w hw => hts w (List.mem_filter.mp hw).1
  have hc : ∀ c : Nat, ∃ x : ClassId × (Nat → Nat), ∀ q : vw_C, vwCl[c]? = some q → u_Kn s q.1 q.2.1 q.2.2 x.1 x.2 := by
    intro c
    match c with
    | 0 =>
      obtain ⟨cC, iS, h⟩ := u_known (C := RX0) (T := TX0) (N := 3) (n := 3) htb ut0 (hts _ lt_c0)
      exact ⟨(cC, iS), fun q hq => by cases hq; exact h⟩
    | 1 =>
      obtain ⟨cC, iS, h⟩ := u_known (C := RX1) (T := TX1) (N := 9) (n := 9) htb ut1 (hts _ lt_c1)
      exact ⟨(cC, iS), fun q hq => by cases hq; exact h⟩
    | 2 =>
      obtain ⟨cC, iS, h⟩ := u_known (C := RX2) (T := TX2) (N := 5) (n := 5) htb ut2 (hts _ lt_c2)
      exact ⟨(cC, iS), fun q hq => by cases hq; exact h⟩
    | 3 =>
      obtain ⟨cC, iS, h⟩ := u_known (C := RX3) (T := TX3) (N := 6) (n := 6) htb ut3 (hts _ lt_c3)
      exact ⟨(cC, iS), fun q hq => by cases hq; exact h⟩
    | 4 =>
      obtain ⟨cC, iS, h⟩ := u_known (C := RX4) (T := TX4) (N := 9) (n := 9) htb ut4 (hts _ lt_c4)
      exact ⟨(cC, iS), fun q hq => by cases hq; exact h⟩
    | 5 =>
      obtain ⟨cC, iS, h⟩ := u_known (C := RX5) (T := TX5) (N := 3) (n := 3) htb ut5 (hts _ lt_c5)
      exact ⟨(cC, iS), fun q hq => by cases hq; exact h⟩
    | 6 =>
      obtain ⟨cC, iS, h⟩ := u_known (C := RX6) (T := TX6) (N := 3) (n := 3) htb ut6 (hts _ lt_c6)
      exact ⟨(cC, iS), fun q hq => by cases hq; exact h⟩
    | 7 =>
      obtain ⟨cC, iS, h⟩ := u_known (C := RX7) (T := TX7) (N := 5) (n := 5) htb ut7 (hts _ lt_c7)
      exact ⟨(cC, iS), fun q hq => by cases hq; exact h⟩
    | 8 =>
      obtain ⟨cC, iS, h⟩ := u_known (C := RX8) (T := TX8) (N := 6) (n := 6) htb ut8 (hts _ lt_c8)
      exact ⟨(cC, iS), fun q hq => by cases hq; exact h⟩
    | 9 =>
      obtain ⟨cC, iS, h⟩ := u_known (C := RX9) (T := TX9) (N := 17) (n := 17) htb ut9 (hts _ lt_c9)
      exact ⟨(cC, iS), fun q hq => by cases hq; exact h⟩
    | 10 =>
      obtain ⟨cC, iS, h⟩ := u_known (C := RX10) (T := TX10) (N := 60) (n := 60) htb ut10 (hts _ lt_c10)
      exact ⟨(cC, iS), fun q hq => by cases hq; exact h⟩
    | c + 11 => exact ⟨(0, fun _ => 0), fun q hq => by simp [vwCl] at hq⟩
  obtain ⟨f, hf⟩ := Classical.axiomOfChoice hc
  obtain ⟨a0, p0⟩ := arr_p (Or.inl rfl) (hts _ lt_p_int)
  obtain ⟨a1, p1⟩ := arr_p (Or.inr (Or.inl rfl)) (hts _ lt_p_byte)
  obtain ⟨a2, p2⟩ := arr_p (Or.inr (Or.inr rfl)) (hts _ lt_p_boolean)
  obtain ⟨a3, p3⟩ := arr_o (hts _ lt_o8)
  obtain ⟨a4, p4⟩ := arr_o (hts _ lt_o1)
  obtain ⟨a5, p5⟩ := arr_o (hts _ lt_o5)
  obtain ⟨a6, p6⟩ := arr_o (hts _ lt_o7)
  obtain ⟨a7, p7⟩ := arr_o (hts _ lt_o6)
  refine ⟨(fun c => (f c).1, fun c => (f c).2), (fun k => match k with | 0 => a0 | 1 => a1 | 2 => a2 | 3 => a3 | 4 => a4 | 5 => a5 | 6 => a6 | _ => a7), fun c q hq => hf c q hq, fun k q hq => ?_⟩
  match k, hq with
  | 0, hq => cases hq; exact p0
  | 1, hq => cases hq; exact p1
  | 2, hq => cases hq; exact p2
  | 3, hq => cases hq; exact p3
  | 4, hq => cases hq; exact p4
  | 5, hq => cases hq; exact p5
  | 6, hq => cases hq; exact p6
  | 7, hq => cases hq; exact p7
  | k + 8, hq => simp [tys] at hq
set_option maxRecDepth 100000 in
set_option maxHeartbeats 4000000 in
theorem start_r {s : State} {b L : Nat} {xs : Nat → Int32} (hts : ∀ w ∈ lw_tbl, w.before #[Value.ref b] s = true) (hX : va_X b L xs s s.heap) (hbl : b < s.heap.size) (hgv : (Jvm.Cond.and given_1 narrow_1).before #[Value.ref b] s = true) : ∃ (tk adK adV : Nat → Nat) (v0 : Value), (v0 = .null ∨ ∃ a, v0 = .ref a) ∧ Rd s.heap.size tk adK adV v0 b L xs s := by
  have hs : ∀ c ∈ nrw, c.before #[Value.ref b] s = true := flat_of_before _ hgv
  have hA : ∀ a : Nat, a < s.heap.size → ¬ (fun q : Nat => s.heap.size ≤ q) a := fun a h => Nat.not_le.mpr h
  have ix : ∀ {i : Nat} {c : Cond}, nrw[i]? = some c → c.before #[Value.ref b] s = true := fun h => hs _ (List.mem_of_getElem? h)
  obtain ⟨t0, u0, T0⟩ := va_Tof (tm := tmT 0) (N := 6) (f := fun j => .int (tabV 0 j)) (A := fun q => s.heap.size ≤ q) (by decide) (hs _ nx_ta0) (va_eqt (hs _ nx_tl0)) (fun j hj => va_eqt (ix (nx_t0 j hj))) hA
  obtain ⟨t1, u1, T1⟩ := va_Tof (tm := tmT 1) (N := 6) (f := fun j => .int (tabV 1 j)) (A := fun q => s.heap.size ≤ q) (by decide) (hs _ nx_ta1) (va_eqt (hs _ nx_tl1)) (fun j hj => va_eqt (ix (nx_t1 j hj))) hA
  obtain ⟨t2, u2, T2⟩ := va_Tof (tm := tmT 2) (N := 6) (f := fun j => .int (tabV 2 j)) (A := fun q => s.heap.size ≤ q) (by decide) (hs _ nx_ta2) (va_eqt (hs _ nx_tl2)) (fun j hj => va_eqt (ix (nx_t2 j hj))) hA
  obtain ⟨adK, adV, hS, hK⟩ := vk_Sof (args := #[Value.ref b]) (s := s) (N := 3) (tm := tmS) (len := xLen) (byt := xByt) (A := fun q => s.heap.size ≤ q) (by decide)
    (fun i hi => match i, hi with | 0, _ => hs _ nx_ex0 | 1, _ => hs _ nx_ex1 | 2, _ => hs _ nx_ex2)
    (fun i hi => match i, hi with | 0, _ => hs _ nx_co0 | 1, _ => hs _ nx_co1 | 2, _ => hs _ nx_co2)
    (fun i hi => match i, hi with | 0, _ => hs _ nx_ar0 | 1, _ => hs _ nx_ar1 | 2, _ => hs _ nx_ar2)
    (fun i hi => match i, hi with | 0, _ => hs _ nx_le0 | 1, _ => hs _ nx_le1 | 2, _ => hs _ nx_le2)
    (fun i hi => match i, hi with | 0, _ => fun j hj => ix (nx_b0 j hj) | 1, _ => fun j hj => ix (nx_b1 j hj) | 2, _ => fun j hj => ix (nx_b2 j hj))
    (fun i j hi hj hij => match i, j, hi, hj, hij with | 0, 0, _, _, h => absurd rfl h | 1, 1, _, _, h => absurd rfl h | 2, 2, _, _, h => absurd rfl h | 0, 1, _, _, _ => Or.inl (hs _ nx_ne01) | 1, 0, _, _, _ => Or.inr (hs _ nx_ne01) | 0, 2, _, _, _ => Or.inl (hs _ nx_ne02) | 2, 0, _, _, _ => Or.inr (hs _ nx_ne02) | 1, 2, _, _, _ => Or.inl (hs _ nx_ne12) | 2, 1, _, _, _ => Or.inr (hs _ nx_ne12)) hA
  have hq := va_Zqof (A := fun q => s.heap.size ≤ q) (hts _ lt_si) (hts _ lt_iP) (hs _ nx_si) hA
  have hv : ∃ v0 : Value, (v0 = .null ∨ ∃ a, v0 = .ref a) ∧ va_Z "jdk/internal/util/Preconditions" "SIOOBE_FORMATTER" "Ljava/util/function/BiFunction;" v0 (fun q => s.heap.size ≤ q) s s.heap := by
    rcases hq with z | ⟨t, z⟩
    · exact ⟨.null, Or.inl rfl, z⟩
    · exact ⟨.ref t, Or.inr ⟨t, rfl⟩, z⟩
  obtain ⟨v0, hv0, hZ⟩ := hv
  refine ⟨(fun k => match k with | 0 => t0 | 1 => t1 | _ => t2), adK, adV, v0, hv0, fun k hk => ?_, ?_, ?_, va_Zof (hts _ lt_cs) (hts _ lt_iS) (va_eqt (hs _ nx_cs)) hA, hZ, hS, fun k hk => ?_, ?_⟩
  · match k, hk with
    | 0, _ => exact ⟨va_Zref (hts _ lt_t0) (hts _ lt_iC) u0 hA, T0⟩
    | 1, _ => exact ⟨va_Zref (hts _ lt_t1) (hts _ lt_iC) u1 hA, T1⟩
    | 2, _ => exact ⟨va_Zref (hts _ lt_t2) (hts _ lt_iC) u2 hA, T2⟩
  · have nb : ∀ w, w.onTables = true → w ∈ lw_tbl → va_Nw w s := fun w h1 h2 => va_Nw.of h1 (hts w h2)
    unfold xNw
    exact List.forall_mem_cons.mpr ⟨nb _ rfl (lt_n0 _ rfl), List.forall_mem_cons.mpr ⟨nb _ rfl (lt_n1 _ rfl), List.forall_mem_cons.mpr ⟨nb _ rfl (lt_n2 _ rfl), List.forall_mem_cons.mpr ⟨nb _ rfl (lt_n3 _ rfl), List.forall_mem_cons.mpr ⟨nb _ rfl (lt_n4 _ rfl), List.forall_mem_cons.mpr ⟨nb _ rfl (lt_n5 _ rfl), fun _ h => absurd h List.not_mem_nil⟩⟩⟩⟩⟩⟩
  · exact List.forall_mem_cons.mpr ⟨va_AO.of (hts _ lt_o8), List.forall_mem_cons.mpr ⟨va_AO.of (hts _ lt_o1), List.forall_mem_cons.mpr ⟨va_AO.of (hts _ lt_o5), List.forall_mem_cons.mpr ⟨va_AO.of (hts _ lt_o7), List.forall_mem_cons.mpr ⟨va_AO.of (hts _ lt_o6), fun _ h => absurd h List.not_mem_nil⟩⟩⟩⟩⟩
  · match k, hk with
    | 0, _ => exact vk_R.of (hts _ lt_r0) (hK 0 (by decide))
    | 1, _ => exact vk_R.of (hts _ lt_r1) (hK 1 (by decide))
    | 2, _ => exact vk_R.of (hts _ lt_r2) (hK 2 (by decide))
  · obtain ⟨cell, h1, h2, h3, h4, h5⟩ := hX
    exact ⟨cell, h1, h2, h3, by rw [h4]; exact Nat.le_refl _, by rw [h4], h5, hA b hbl⟩
set_option maxRecDepth 100000 in
set_option maxHeartbeats 4000000 in
/-- from the entry, for every script of at most 3072 ints, the law comes to its end with true -/
theorem whole_start {p : Program} {e : Env} {s : State} {m : MethodId} {below : List Frame} {meth : Method} {c : Code} (l : Launch) (hflags : l.flags = flags0) {b L : Nat} {xs : Nat → Int32} (hL : L ≤ 3072) (C0 : lw_At p s m meth c b L xs) : W p l e room_1 s m #[Value.ref b] below meth c s.heap [] 0 0 (lw_Z below #[Value.ref b] s) (entryFrame m ([Value.ref b] : List Value).toArray 4) := by
  obtain ⟨hx, hb, hr, hml, hown, hts, hX, hbl, hlocks, hgv⟩ := id C0
  obtain ⟨D, fA, hK⟩ := start_k hts
  obtain ⟨tk, adK, adV, v0, hv0, hR⟩ := start_r hts hX hbl hgv
  have hl := lv_entry ([.ref b]) (n := 4) (Nat.le_of_ble_eq_true rfl)
  rw [lg_entry_eq]
  generalize (lg_sl ([.ref b]) ++ List.replicate (4 - (lg_sl ([.ref b])).length) Slot.unset).toArray = ls at hl ⊢
  have hl : lv_has ls 4 [(0, .ref b)] := hl
  have A := law_aw (g := (l, D, fA, s.heap.size, Rd s.heap.size tk adK adV v0 b L xs)) (b := b) (Ls := L) (xs := xs) (nm := meth.name) (Rd.gx hv0) (fun U h => h.2.2.2.2.2.2.2) hL
  have hHP : HP (l, D, fA, s.heap.size, Rd s.heap.size tk adK adV v0 b L xs) (fun _ => none) s.heap := ⟨[], fun k q h => by simp at h, ⟨fun i j p q h => by simp at h, fun k q h => by simp at h⟩, fun q e h => by cases h⟩
  have w := A p e s m #[Value.ref b] below meth c s.heap [] 0 0 600000 7302250 room_1 ls ⟨hx, hb, hml, hr, hlocks, rfl, hown, fun w hw => hts w (List.mem_filter.mp hw).1, Rd.ok, hK, hR, Nat.le_refl _, Nat.le_of_ble_eq_true rfl, Nat.le_of_ble_eq_true rfl, Nat.le_of_ble_eq_true rfl, Nat.le_of_ble_eq_true rfl, Nat.le_of_ble_eq_true rfl, Nat.le_of_ble_eq_true rfl⟩ hHP va_S.rf hl
  intro T hT X
  obtain ⟨t, a, o, b1, b2, ⟨⟨v, h', e1, e2, e3⟩, b3⟩, Lc, fe, hfree⟩ := w T hT X
  refine ⟨t, a, o, b1, b2, ?_⟩
  have e4 : v = some (.int 1) := e2
  rw [e4] at e1
  exact ⟨e1, fe.1, fe.2.1, fe.2.2.weaken (fun y hy hlt => absurd hlt (Nat.not_lt.mpr (hfree y hy))) (Nat.le_refl _) (Nat.le_refl _)⟩
