/-- the words that a callee may have, too -/
def tb : List Cond := lw_tbl.filter goodWord
/-- the launch, the classes' numbers, the array classes, the first new cell, what is only read -/
abbrev GC : Type := Launch × va_G × (Nat → ClassId) × Nat × (State → Prop)
abbrev gl (g : GC) : Launch := g.1
abbrev gD (g : GC) : va_G := g.2.1
abbrev gA (g : GC) : Nat → ClassId := g.2.2.1
abbrev gN (g : GC) : Nat := g.2.2.2.1
abbrev gR (g : GC) : State → Prop := g.2.2.2.2
abbrev tys (f : Nat → ClassId) : List (ClassId × FieldType) := [(f 0, .int), (f 1, .byte), (f 2, .boolean), (f 3, .object RX8), (f 4, .object RX1), (f 5, .object RX5), (f 6, .object RX7), (f 7, .object RX6)]
abbrev hE : Type := (Nat × vp_A) ⊕ (Nat × List Value)
abbrev hH : Type := Nat → Option hE
def tr (g : GC) (e : hE) : va_E := match e with
  | .inl a => .inl (gA g a.1, a.2)
  | .inr o => .inr o
def HP (g : GC) (h : hH) (H : Heap) : Prop := ∃ ws : va_W, va_P (gD g) vwCl ws H ∧ va_D (fun q => gN g ≤ q) ws ∧ ∀ q e, h q = some e → (q, tr g e) ∈ ws
def Rok (g : GC) : Prop := ∀ s U : State, s.WarmedH U.vm → (∀ q : Nat, q < gN g → U.heap[q]? = s.heap[q]?) → gR g s → gR g U
def Pk (g : GC) (h : hH) (U : State) : Prop := Rok g ∧ va_K (gD g) vwCl (tys (gA g)) U ∧ gR g U ∧ gN g ≤ U.heap.size ∧ HP g h U.heap
def Qk (g : GC) (K : Option Value → hH → Prop) : Array Value → State → Outcome → State → Prop := fun _ st oc t => (∃ v h', oc = .returned v ∧ K v h' ∧ HP g h' t.heap) ∧ va_F (fun q => gN g ≤ q) st t
def Sx (g : GC) (own : String) (cc : ByteArray) (nL : Nat) (ret : Option FieldType) (nm : String) (d c n : Nat) (p : Program) (s : State) (m : MethodId) (args : Array Value) (meth : Method) (c' : Code) (cells slots mc ms : Nat) (R : Room) : Prop :=
  p.tables.exec = Jvm.exec ∧ c'.code = cc ∧ c'.maxLocals = nL ∧ meth.sig.returnType = ret ∧ meth.locks = false ∧ meth.name = nm ∧ s.vm.findClass own = some m.cls ∧ (∀ w ∈ tb, w.before args s = true) ∧ Rok g ∧ va_K (gD g) vwCl (tys (gA g)) s ∧ gR g s ∧ gN g ≤ s.heap.size ∧ cells + c ≤ mc ∧ slots + n ≤ ms ∧ mc ≤ R.cells ∧ ms ≤ R.slots ∧ d ≤ R.frames ∧ 64 * d ≤ R.locals
def AW (g : GC) (own : String) (cc : ByteArray) (nL : Nat) (ret : Option FieldType) (nm : String) (d c n : Nat) (K : Option Value → hH → Prop) (pc : Nat) (L : List (Nat × Value)) (st : List Value) (h : hH) : Prop :=
  ∀ (p : Program) (e : Env) (s : State) (m : MethodId) (args : Array Value) (below : List Frame) (meth : Method) (c' : Code) (H : Heap) (locs : List Loc) (cells slots mc ms : Nat) (R : Room) (ls : Array Slot),
    Sx g own cc nL ret nm d c n p s m args meth c' cells slots mc ms R → HP g h H → va_S (fun q => gN g ≤ q) s.heap H locs → lv_has ls nL L →
    W p (gl g) e R s m args below meth c' H locs cells slots (MQ below (Qk g K) args s mc ms (fun q => gN g ≤ q)) (F0 m pc ls st)
def AM (g : GC) (d c n : Nat) (y : MethodName) (cc : ByteArray) (maxL : Nat) (ret : Option FieldType) (args : List Value) (h : hH) (K : Option Value → hH → Prop) : Prop :=
  Met (gl g) y (.code y cc maxL ret :: tb) ({ frames := d, cells := c, slots := n, locals := 64 * d }) (va_Pc args (Pk g h)) (Qk g K) c n (fun q => gN g ≤ q)
def lk : List (Nat × Value) → Nat → Option Value
  | [], _ => none
  | q :: t, i => if q.1 = i then some q.2 else lk t i
theorem lk_mem : ∀ {L : List (Nat × Value)} {i : Nat} {v : Value}, lk L i = some v → (i, v) ∈ L
  | [], _, _, h => by cases h
  | q :: t, i, v, h => by
    unfold lk at h
    split at h
    · next e => cases h; cases e; exact List.mem_cons_self
    · exact List.mem_cons_of_mem _ (lk_mem h)
theorem lk_at {ls : Array Slot} {nL : Nat} {L : List (Nat × Value)} (h : lv_has ls nL L) {i : Nat} {v : Value} (hk : lk L i = some v) : ls[i]? = some (.val v) := h.2.2 (i, v) (lk_mem hk)
def st1 (L : List (Nat × Value)) (i : Nat) (v : Value) : List (Nat × Value) := (i, v) :: L.filter (fun q => !(q.1 == i) && !(q.1 + 1 == i && q.2.category == 2))
def st2 (L : List (Nat × Value)) (i : Nat) (v : Value) : List (Nat × Value) := (i, v) :: L.filter (fun q => !(q.1 == i) && (!(q.1 == i + 1) && !(q.1 + 1 == i && q.2.category == 2)))
/-- one cell of the heap anew -/
def hu (h : hH) (a : Nat) (e : hE) : hH := fun q => if q = a then some e else h q
theorem hu_eq (h : hH) (a : Nat) (e : hE) : hu h a e a = some e := if_pos rfl
theorem hu_ne {h : hH} {a q : Nat} {e : hE} (n : q ≠ a) : hu h a e q = h q := if_neg n
theorem HP.at {g : GC} {h : hH} {ws : va_W} (hi : ∀ q e, h q = some e → (q, tr g e) ∈ ws) {a : Nat} {e : hE} (ha : h a = some e) : ∃ q0 : Nat, ws[q0]? = some (a, tr g e) := List.getElem?_of_mem (hi a e ha)
theorem HP.set {g : GC} {h : hH} {ws : va_W} {H : Heap} (hD : va_D (fun q => gN g ≤ q) ws) (hi : ∀ q e, h q = some e → (q, tr g e) ∈ ws) {a q0 : Nat} {e0 : va_E} {e1 : hE} (hq : ws[q0]? = some (a, e0)) (hP : va_P (gD g) vwCl (ws.set q0 (a, tr g e1)) H) (hD1 : va_D (fun q => gN g ≤ q) (ws.set q0 (a, tr g e1))) : HP g (hu h a e1) H := by
  refine ⟨_, hP, hD1, fun q e he => ?_⟩
  have hl := (List.getElem?_eq_some_iff.mp hq).1
  by_cases hqa : q = a
  · subst hqa
    rw [hu_eq] at he
    cases he
    exact List.mem_of_getElem? (List.getElem?_set_self hl)
  · rw [hu_ne hqa] at he
    obtain ⟨i, hI⟩ := List.getElem?_of_mem (hi q e he)
    have hne : q0 ≠ i := fun z => by subst z; rw [hq] at hI; cases hI; exact hqa rfl
    exact List.mem_of_getElem? ((List.getElem?_set_ne hne).trans hI)
theorem HP.push {g : GC} {h : hH} {ws : va_W} {H : Heap} (hi : ∀ q e, h q = some e → (q, tr g e) ∈ ws) {a : Nat} {e1 : hE} (hP : va_P (gD g) vwCl (ws ++ [(a, tr g e1)]) H) (hD1 : va_D (fun q => gN g ≤ q) (ws ++ [(a, tr g e1)])) : h a = none ∧ HP g (hu h a e1) H := by
  have hn : h a = none := by
    cases hx : h a with
    | none => rfl
    | some e =>
      obtain ⟨i, hI⟩ := List.getElem?_of_mem (hi a e hx)
      have hl := (List.getElem?_eq_some_iff.mp hI).1
      have h1 : (ws ++ [(a, tr g e1)])[i]? = some (a, tr g e) := by rw [List.getElem?_append_left hl]; exact hI
      have h2 : (ws ++ [(a, tr g e1)])[ws.length]? = some (a, tr g e1) := by simp
      have := hD1.1 i ws.length _ _ h1 h2 rfl
      omega
  refine ⟨hn, _, hP, hD1, fun q e he => ?_⟩
  by_cases hqa : q = a
  · subst hqa
    rw [hu_eq] at he
    cases he
    exact List.mem_append_right _ List.mem_cons_self
  · rw [hu_ne hqa] at he
    exact List.mem_append_left _ (hi q e he)
theorem tb_good : GoodIn tb tb := fun w hw => ⟨hw, good_of_word (List.mem_filter.mp hw).2⟩
theorem tb_at (i : Nat) {w : Cond} (h : lw_tbl[i]? = some w) (hg : goodWord w = true) : w ∈ tb := List.mem_filter.mpr ⟨List.mem_of_getElem? h, hg⟩

section R1
variable {g : GC} {own : String} {cc : ByteArray} {nL : Nat} {ret : Option FieldType} {nm : String} {d c n : Nat} {K : Option Value → hH → Prop} {pc : Nat} {L : List (Nat × Value)} {rest : List Value} {h : hH}
theorem r_iconst {z : Int} {v : Int32} (hd : decode cc pc = .ok (.iconst z, 1)) (hv : Int32.ofInt z = v) (k : AW g own cc nL ret nm d c n K (pc + 1) L (.int v :: rest) h) : AW g own cc nL ret nm d c n K pc L rest h :=
  fun p e s m args below meth c1 H locs cells slots mc ms R ls X hH hS hl => lv_iconst X.1 X.2.1 hd hv (k p e s m args below meth c1 H locs cells slots mc ms R ls X hH hS hl)
theorem r_bipush {z : Int} {v : Int32} (hd : decode cc pc = .ok (.bipush z, 2)) (hv : (Int8.ofInt z).toInt32 = v) (k : AW g own cc nL ret nm d c n K (pc + 2) L (.int v :: rest) h) : AW g own cc nL ret nm d c n K pc L rest h :=
  fun p e s m args below meth c1 H locs cells slots mc ms R ls X hH hS hl => lv_bipush X.1 X.2.1 hd hv (k p e s m args below meth c1 H locs cells slots mc ms R ls X hH hS hl)
theorem r_sipush {z : Int} {v : Int32} (hd : decode cc pc = .ok (.sipush z, 3)) (hv : (Int16.ofInt z).toInt32 = v) (k : AW g own cc nL ret nm d c n K (pc + 3) L (.int v :: rest) h) : AW g own cc nL ret nm d c n K pc L rest h :=
  fun p e s m args below meth c1 H locs cells slots mc ms R ls X hH hS hl => lv_sipush X.1 X.2.1 hd hv (k p e s m args below meth c1 H locs cells slots mc ms R ls X hH hS hl)
theorem r_lconst {z : Fin 2} {v : Int64} (hd : decode cc pc = .ok (.lconst z, 1)) (hv : Int64.ofNat (z : Nat) = v) (k : AW g own cc nL ret nm d c n K (pc + 1) L (.long v :: rest) h) : AW g own cc nL ret nm d c n K pc L rest h :=
  fun p e s m args below meth c1 H locs cells slots mc ms R ls X hH hS hl => lv_lconst X.1 X.2.1 hd hv (k p e s m args below meth c1 H locs cells slots mc ms R ls X hH hS hl)
theorem r_null  (hd : decode cc pc = .ok (.aconst_null, 1)) (k : AW g own cc nL ret nm d c n K (pc + 1) L (.null :: rest) h) : AW g own cc nL ret nm d c n K pc L rest h :=
  fun p e s m args below meth c1 H locs cells slots mc ms R ls X hH hS hl => lv_null X.1 X.2.1 hd  (k p e s m args below meth c1 H locs cells slots mc ms R ls X hH hS hl)
theorem r_iload_n {k0 : Fin 4} {x : Int32} (hd : decode cc pc = .ok (.iload_n k0, 1)) (hx : lk L (k0 : Nat) = some (.int x)) (k : AW g own cc nL ret nm d c n K (pc + 1) L (.int x :: rest) h) : AW g own cc nL ret nm d c n K pc L rest h :=
  fun p e s m args below meth c1 H locs cells slots mc ms R ls X hH hS hl => lv_iload_n X.1 X.2.1 hd rfl (lk_at hl hx) (k p e s m args below meth c1 H locs cells slots mc ms R ls X hH hS hl)
theorem r_iload {i : Nat} {x : Int32} (hd : decode cc pc = .ok (.iload i, 2)) (hx : lk L i = some (.int x)) (k : AW g own cc nL ret nm d c n K (pc + 2) L (.int x :: rest) h) : AW g own cc nL ret nm d c n K pc L rest h :=
  fun p e s m args below meth c1 H locs cells slots mc ms R ls X hH hS hl => lv_iload X.1 X.2.1 hd (lk_at hl hx) (k p e s m args below meth c1 H locs cells slots mc ms R ls X hH hS hl)
theorem r_lload_n {k0 : Fin 4} {x : Int64} (hd : decode cc pc = .ok (.lload_n k0, 1)) (hx : lk L (k0 : Nat) = some (.long x)) (k : AW g own cc nL ret nm d c n K (pc + 1) L (.long x :: rest) h) : AW g own cc nL ret nm d c n K pc L rest h :=
  fun p e s m args below meth c1 H locs cells slots mc ms R ls X hH hS hl => lv_lload_n X.1 X.2.1 hd rfl (lk_at hl hx) (k p e s m args below meth c1 H locs cells slots mc ms R ls X hH hS hl)
theorem r_lload {i : Nat} {x : Int64} (hd : decode cc pc = .ok (.lload i, 2)) (hx : lk L i = some (.long x)) (k : AW g own cc nL ret nm d c n K (pc + 2) L (.long x :: rest) h) : AW g own cc nL ret nm d c n K pc L rest h :=
  fun p e s m args below meth c1 H locs cells slots mc ms R ls X hH hS hl => lv_lload X.1 X.2.1 hd (lk_at hl hx) (k p e s m args below meth c1 H locs cells slots mc ms R ls X hH hS hl)
theorem r_aload_n {k0 : Fin 4} {x : Nat} (hd : decode cc pc = .ok (.aload_n k0, 1)) (hx : lk L (k0 : Nat) = some (.ref x)) (k : AW g own cc nL ret nm d c n K (pc + 1) L (.ref x :: rest) h) : AW g own cc nL ret nm d c n K pc L rest h :=
  fun p e s m args below meth c1 H locs cells slots mc ms R ls X hH hS hl => lv_aload_n X.1 X.2.1 hd rfl (lk_at hl hx) (k p e s m args below meth c1 H locs cells slots mc ms R ls X hH hS hl)
theorem r_aload {i : Nat} {x : Nat} (hd : decode cc pc = .ok (.aload i, 2)) (hx : lk L i = some (.ref x)) (k : AW g own cc nL ret nm d c n K (pc + 2) L (.ref x :: rest) h) : AW g own cc nL ret nm d c n K pc L rest h :=
  fun p e s m args below meth c1 H locs cells slots mc ms R ls X hH hS hl => lv_aload X.1 X.2.1 hd (lk_at hl hx) (k p e s m args below meth c1 H locs cells slots mc ms R ls X hH hS hl)
theorem r_aload_nN {k0 : Fin 4} (hd : decode cc pc = .ok (.aload_n k0, 1)) (hx : lk L (k0 : Nat) = some .null) (k : AW g own cc nL ret nm d c n K (pc + 1) L (.null :: rest) h) : AW g own cc nL ret nm d c n K pc L rest h :=
  fun p e s m args below meth c1 H locs cells slots mc ms R ls X hH hS hl => lv_aload_nN X.1 X.2.1 hd rfl (lk_at hl hx) (k p e s m args below meth c1 H locs cells slots mc ms R ls X hH hS hl)
theorem r_aloadN {i : Nat} (hd : decode cc pc = .ok (.aload i, 2)) (hx : lk L i = some .null) (k : AW g own cc nL ret nm d c n K (pc + 2) L (.null :: rest) h) : AW g own cc nL ret nm d c n K pc L rest h :=
  fun p e s m args below meth c1 H locs cells slots mc ms R ls X hH hS hl => lv_aloadN X.1 X.2.1 hd (lk_at hl hx) (k p e s m args below meth c1 H locs cells slots mc ms R ls X hH hS hl)
theorem r_istore_n {k0 : Fin 4} {x : Int32} (hd : decode cc pc = .ok (.istore_n k0, 1)) (hn : (k0 : Nat) < nL) (k : AW g own cc nL ret nm d c n K (pc + 1) (st1 L (k0 : Nat) (.int x)) rest h) : AW g own cc nL ret nm d c n K pc L ((.int x) :: rest) h :=
  fun p e s m args below meth c1 H locs cells slots mc ms R ls X hH hS hl => lv_istore_n X.1 X.2.1 hd rfl hl hn rfl (fun ls hl => k p e s m args below meth c1 H locs cells slots mc ms R ls X hH hS hl)
theorem r_istore {i : Nat} {x : Int32} (hd : decode cc pc = .ok (.istore i, 2)) (hn : i < nL) (k : AW g own cc nL ret nm d c n K (pc + 2) (st1 L i (.int x)) rest h) : AW g own cc nL ret nm d c n K pc L ((.int x) :: rest) h :=
  fun p e s m args below meth c1 H locs cells slots mc ms R ls X hH hS hl => lv_istore X.1 X.2.1 hd hl hn rfl (fun ls hl => k p e s m args below meth c1 H locs cells slots mc ms R ls X hH hS hl)
theorem r_lstore_n {k0 : Fin 4} {x : Int64} (hd : decode cc pc = .ok (.lstore_n k0, 1)) (hn : (k0 : Nat) + 1 < nL) (k : AW g own cc nL ret nm d c n K (pc + 1) (st2 L (k0 : Nat) (.long x)) rest h) : AW g own cc nL ret nm d c n K pc L ((.long x) :: rest) h :=
  fun p e s m args below meth c1 H locs cells slots mc ms R ls X hH hS hl => lv_lstore_n X.1 X.2.1 hd rfl hl hn rfl (fun ls hl => k p e s m args below meth c1 H locs cells slots mc ms R ls X hH hS hl)
theorem r_lstore {i : Nat} {x : Int64} (hd : decode cc pc = .ok (.lstore i, 2)) (hn : i + 1 < nL) (k : AW g own cc nL ret nm d c n K (pc + 2) (st2 L i (.long x)) rest h) : AW g own cc nL ret nm d c n K pc L ((.long x) :: rest) h :=
  fun p e s m args below meth c1 H locs cells slots mc ms R ls X hH hS hl => lv_lstore X.1 X.2.1 hd hl hn rfl (fun ls hl => k p e s m args below meth c1 H locs cells slots mc ms R ls X hH hS hl)
theorem r_astore_n {k0 : Fin 4} {x : Nat} (hd : decode cc pc = .ok (.astore_n k0, 1)) (hn : (k0 : Nat) < nL) (k : AW g own cc nL ret nm d c n K (pc + 1) (st1 L (k0 : Nat) (.ref x)) rest h) : AW g own cc nL ret nm d c n K pc L ((.ref x) :: rest) h :=
  fun p e s m args below meth c1 H locs cells slots mc ms R ls X hH hS hl => lv_astore_n X.1 X.2.1 hd rfl hl hn rfl (fun ls hl => k p e s m args below meth c1 H locs cells slots mc ms R ls X hH hS hl)
theorem r_astore {i : Nat} {x : Nat} (hd : decode cc pc = .ok (.astore i, 2)) (hn : i < nL) (k : AW g own cc nL ret nm d c n K (pc + 2) (st1 L i (.ref x)) rest h) : AW g own cc nL ret nm d c n K pc L ((.ref x) :: rest) h :=
  fun p e s m args below meth c1 H locs cells slots mc ms R ls X hH hS hl => lv_astore X.1 X.2.1 hd hl hn rfl (fun ls hl => k p e s m args below meth c1 H locs cells slots mc ms R ls X hH hS hl)
theorem r_astore_nN {k0 : Fin 4} (hd : decode cc pc = .ok (.astore_n k0, 1)) (hn : (k0 : Nat) < nL) (k : AW g own cc nL ret nm d c n K (pc + 1) (st1 L (k0 : Nat) .null) rest h) : AW g own cc nL ret nm d c n K pc L (.null :: rest) h :=
  fun p e s m args below meth c1 H locs cells slots mc ms R ls X hH hS hl => lv_astore_nN X.1 X.2.1 hd rfl hl hn rfl (fun ls hl => k p e s m args below meth c1 H locs cells slots mc ms R ls X hH hS hl)
theorem r_astoreN {i : Nat} (hd : decode cc pc = .ok (.astore i, 2)) (hn : i < nL) (k : AW g own cc nL ret nm d c n K (pc + 2) (st1 L i .null) rest h) : AW g own cc nL ret nm d c n K pc L (.null :: rest) h :=
  fun p e s m args below meth c1 H locs cells slots mc ms R ls X hH hS hl => lv_astoreN X.1 X.2.1 hd hl hn rfl (fun ls hl => k p e s m args below meth c1 H locs cells slots mc ms R ls X hH hS hl)
theorem r_iinc {i : Nat} {z : Int} {x v : Int32} (hd : decode cc pc = .ok (.iinc i z, 3)) (hx : lk L i = some (.int x)) (hv : x + Int32.ofInt z = v) (hn : i < nL) (k : AW g own cc nL ret nm d c n K (pc + 3) (st1 L i (.int v)) rest h) : AW g own cc nL ret nm d c n K pc L rest h := by
  intro p e s m args below meth c1 H locs cells slots mc ms R ls X hH hS hl
  obtain ⟨k0, hk0⟩ := List.getElem?_of_mem (lk_mem hx)
  exact lv_iinc (k := k0) X.1 X.2.1 hd hl hk0 hv hn rfl (fun ls hl => k p e s m args below meth c1 H locs cells slots mc ms R ls X hH hS hl)
theorem r_iadd {x y : Int32} (hd : decode cc pc = .ok (.iadd, 1)) (k : AW g own cc nL ret nm d c n K (pc + 1) L (.int (x + y) :: rest) h) : AW g own cc nL ret nm d c n K pc L (.int y :: .int x :: rest) h :=
  fun p e s m args below meth c1 H locs cells slots mc ms R ls X hH hS hl => lv_iadd X.1 X.2.1 hd  (k p e s m args below meth c1 H locs cells slots mc ms R ls X hH hS hl)
theorem r_isub {x y : Int32} (hd : decode cc pc = .ok (.isub, 1)) (k : AW g own cc nL ret nm d c n K (pc + 1) L (.int (x - y) :: rest) h) : AW g own cc nL ret nm d c n K pc L (.int y :: .int x :: rest) h :=
  fun p e s m args below meth c1 H locs cells slots mc ms R ls X hH hS hl => lv_isub X.1 X.2.1 hd  (k p e s m args below meth c1 H locs cells slots mc ms R ls X hH hS hl)
theorem r_imul {x y : Int32} (hd : decode cc pc = .ok (.imul, 1)) (k : AW g own cc nL ret nm d c n K (pc + 1) L (.int (x * y) :: rest) h) : AW g own cc nL ret nm d c n K pc L (.int y :: .int x :: rest) h :=
  fun p e s m args below meth c1 H locs cells slots mc ms R ls X hH hS hl => lv_imul X.1 X.2.1 hd  (k p e s m args below meth c1 H locs cells slots mc ms R ls X hH hS hl)
theorem r_iand {x y : Int32} (hd : decode cc pc = .ok (.iand, 1)) (k : AW g own cc nL ret nm d c n K (pc + 1) L (.int (x &&& y) :: rest) h) : AW g own cc nL ret nm d c n K pc L (.int y :: .int x :: rest) h :=
  fun p e s m args below meth c1 H locs cells slots mc ms R ls X hH hS hl => lv_iand X.1 X.2.1 hd  (k p e s m args below meth c1 H locs cells slots mc ms R ls X hH hS hl)
theorem r_ior {x y : Int32} (hd : decode cc pc = .ok (.ior, 1)) (k : AW g own cc nL ret nm d c n K (pc + 1) L (.int (x ||| y) :: rest) h) : AW g own cc nL ret nm d c n K pc L (.int y :: .int x :: rest) h :=
  fun p e s m args below meth c1 H locs cells slots mc ms R ls X hH hS hl => lv_ior X.1 X.2.1 hd  (k p e s m args below meth c1 H locs cells slots mc ms R ls X hH hS hl)
theorem r_ixor {x y : Int32} (hd : decode cc pc = .ok (.ixor, 1)) (k : AW g own cc nL ret nm d c n K (pc + 1) L (.int (x ^^^ y) :: rest) h) : AW g own cc nL ret nm d c n K pc L (.int y :: .int x :: rest) h :=
  fun p e s m args below meth c1 H locs cells slots mc ms R ls X hH hS hl => lv_ixor X.1 X.2.1 hd  (k p e s m args below meth c1 H locs cells slots mc ms R ls X hH hS hl)
theorem r_ladd {x y : Int64} (hd : decode cc pc = .ok (.ladd, 1)) (k : AW g own cc nL ret nm d c n K (pc + 1) L (.long (x + y) :: rest) h) : AW g own cc nL ret nm d c n K pc L (.long y :: .long x :: rest) h :=
  fun p e s m args below meth c1 H locs cells slots mc ms R ls X hH hS hl => lv_ladd X.1 X.2.1 hd  (k p e s m args below meth c1 H locs cells slots mc ms R ls X hH hS hl)
theorem r_lsub {x y : Int64} (hd : decode cc pc = .ok (.lsub, 1)) (k : AW g own cc nL ret nm d c n K (pc + 1) L (.long (x - y) :: rest) h) : AW g own cc nL ret nm d c n K pc L (.long y :: .long x :: rest) h :=
  fun p e s m args below meth c1 H locs cells slots mc ms R ls X hH hS hl => lv_lsub X.1 X.2.1 hd  (k p e s m args below meth c1 H locs cells slots mc ms R ls X hH hS hl)
theorem r_lmul {x y : Int64} (hd : decode cc pc = .ok (.lmul, 1)) (k : AW g own cc nL ret nm d c n K (pc + 1) L (.long (x * y) :: rest) h) : AW g own cc nL ret nm d c n K pc L (.long y :: .long x :: rest) h :=
  fun p e s m args below meth c1 H locs cells slots mc ms R ls X hH hS hl => lv_lmul X.1 X.2.1 hd  (k p e s m args below meth c1 H locs cells slots mc ms R ls X hH hS hl)
theorem r_land {x y : Int64} (hd : decode cc pc = .ok (.land, 1)) (k : AW g own cc nL ret nm d c n K (pc + 1) L (.long (x &&& y) :: rest) h) : AW g own cc nL ret nm d c n K pc L (.long y :: .long x :: rest) h :=
  fun p e s m args below meth c1 H locs cells slots mc ms R ls X hH hS hl => lv_land X.1 X.2.1 hd  (k p e s m args below meth c1 H locs cells slots mc ms R ls X hH hS hl)
theorem r_lor {x y : Int64} (hd : decode cc pc = .ok (.lor, 1)) (k : AW g own cc nL ret nm d c n K (pc + 1) L (.long (x ||| y) :: rest) h) : AW g own cc nL ret nm d c n K pc L (.long y :: .long x :: rest) h :=
  fun p e s m args below meth c1 H locs cells slots mc ms R ls X hH hS hl => lv_lor X.1 X.2.1 hd  (k p e s m args below meth c1 H locs cells slots mc ms R ls X hH hS hl)
theorem r_ishl {x y : Int32} (hd : decode cc pc = .ok (.ishl, 1)) (k : AW g own cc nL ret nm d c n K (pc + 1) L (.int (x <<< (y &&& 31)) :: rest) h) : AW g own cc nL ret nm d c n K pc L (.int y :: .int x :: rest) h :=
  fun p e s m args below meth c1 H locs cells slots mc ms R ls X hH hS hl => lv_ishl X.1 X.2.1 hd  (k p e s m args below meth c1 H locs cells slots mc ms R ls X hH hS hl)
theorem r_ishr {x y : Int32} (hd : decode cc pc = .ok (.ishr, 1)) (k : AW g own cc nL ret nm d c n K (pc + 1) L (.int (x >>> (y &&& 31)) :: rest) h) : AW g own cc nL ret nm d c n K pc L (.int y :: .int x :: rest) h :=
  fun p e s m args below meth c1 H locs cells slots mc ms R ls X hH hS hl => lv_ishr X.1 X.2.1 hd  (k p e s m args below meth c1 H locs cells slots mc ms R ls X hH hS hl)
theorem r_iushr {x y : Int32} (hd : decode cc pc = .ok (.iushr, 1)) (k : AW g own cc nL ret nm d c n K (pc + 1) L (.int ((x.toUInt32 >>> (y.toUInt32 &&& Int32.toUInt32 31)).toInt32) :: rest) h) : AW g own cc nL ret nm d c n K pc L (.int y :: .int x :: rest) h :=
  fun p e s m args below meth c1 H locs cells slots mc ms R ls X hH hS hl => lv_iushr X.1 X.2.1 hd rfl (k p e s m args below meth c1 H locs cells slots mc ms R ls X hH hS hl)
theorem r_lushr {x : Int64} {y : Int32} (hd : decode cc pc = .ok (.lushr, 1)) (k : AW g own cc nL ret nm d c n K (pc + 1) L (.long ((x.toUInt64 >>> (y.toInt64.toUInt64 &&& Int64.toUInt64 63)).toInt64) :: rest) h) : AW g own cc nL ret nm d c n K pc L (.int y :: .long x :: rest) h :=
  fun p e s m args below meth c1 H locs cells slots mc ms R ls X hH hS hl => lv_lushr X.1 X.2.1 hd rfl (k p e s m args below meth c1 H locs cells slots mc ms R ls X hH hS hl)
theorem r_lshl {x : Int64} {y : Int32} (hd : decode cc pc = .ok (.lshl, 1)) (k : AW g own cc nL ret nm d c n K (pc + 1) L (.long (x <<< (y.toInt64 &&& 63)) :: rest) h) : AW g own cc nL ret nm d c n K pc L (.int y :: .long x :: rest) h :=
  fun p e s m args below meth c1 H locs cells slots mc ms R ls X hH hS hl => lv_lshl X.1 X.2.1 hd rfl (k p e s m args below meth c1 H locs cells slots mc ms R ls X hH hS hl)
theorem r_lshr {x : Int64} {y : Int32} (hd : decode cc pc = .ok (.lshr, 1)) (k : AW g own cc nL ret nm d c n K (pc + 1) L (.long (x >>> (y.toInt64 &&& 63)) :: rest) h) : AW g own cc nL ret nm d c n K pc L (.int y :: .long x :: rest) h :=
  fun p e s m args below meth c1 H locs cells slots mc ms R ls X hH hS hl => lv_lshr X.1 X.2.1 hd rfl (k p e s m args below meth c1 H locs cells slots mc ms R ls X hH hS hl)
theorem r_idiv {x y : Int32} (hd : decode cc pc = .ok (.idiv, 1)) (hy : ¬ y = 0) (k : AW g own cc nL ret nm d c n K (pc + 1) L (.int (x / y) :: rest) h) : AW g own cc nL ret nm d c n K pc L (.int y :: .int x :: rest) h :=
  fun p e s m args below meth c1 H locs cells slots mc ms R ls X hH hS hl => lv_idiv X.1 X.2.1 hd hy (k p e s m args below meth c1 H locs cells slots mc ms R ls X hH hS hl)
theorem r_irem {x y : Int32} (hd : decode cc pc = .ok (.irem, 1)) (hy : ¬ y = 0) (k : AW g own cc nL ret nm d c n K (pc + 1) L (.int (x - x / y * y) :: rest) h) : AW g own cc nL ret nm d c n K pc L (.int y :: .int x :: rest) h :=
  fun p e s m args below meth c1 H locs cells slots mc ms R ls X hH hS hl => lv_irem X.1 X.2.1 hd hy (k p e s m args below meth c1 H locs cells slots mc ms R ls X hH hS hl)
theorem r_ldiv {x y : Int64} (hd : decode cc pc = .ok (.ldiv, 1)) (hy : ¬ y = 0) (k : AW g own cc nL ret nm d c n K (pc + 1) L (.long (x / y) :: rest) h) : AW g own cc nL ret nm d c n K pc L (.long y :: .long x :: rest) h :=
  fun p e s m args below meth c1 H locs cells slots mc ms R ls X hH hS hl => lv_ldiv X.1 X.2.1 hd hy (k p e s m args below meth c1 H locs cells slots mc ms R ls X hH hS hl)
theorem r_lrem {x y : Int64} (hd : decode cc pc = .ok (.lrem, 1)) (hy : ¬ y = 0) (k : AW g own cc nL ret nm d c n K (pc + 1) L (.long (x - x / y * y) :: rest) h) : AW g own cc nL ret nm d c n K pc L (.long y :: .long x :: rest) h :=
  fun p e s m args below meth c1 H locs cells slots mc ms R ls X hH hS hl => lv_lrem X.1 X.2.1 hd hy (k p e s m args below meth c1 H locs cells slots mc ms R ls X hH hS hl)
theorem r_ineg {x : Int32} (hd : decode cc pc = .ok (.ineg, 1)) (k : AW g own cc nL ret nm d c n K (pc + 1) L (.int (-x) :: rest) h) : AW g own cc nL ret nm d c n K pc L (.int x :: rest) h :=
  fun p e s m args below meth c1 H locs cells slots mc ms R ls X hH hS hl => lv_ineg X.1 X.2.1 hd  (k p e s m args below meth c1 H locs cells slots mc ms R ls X hH hS hl)
theorem r_lneg {x : Int64} (hd : decode cc pc = .ok (.lneg, 1)) (k : AW g own cc nL ret nm d c n K (pc + 1) L (.long (-x) :: rest) h) : AW g own cc nL ret nm d c n K pc L (.long x :: rest) h :=
  fun p e s m args below meth c1 H locs cells slots mc ms R ls X hH hS hl => lv_lneg X.1 X.2.1 hd  (k p e s m args below meth c1 H locs cells slots mc ms R ls X hH hS hl)
theorem r_i2l {x : Int32} (hd : decode cc pc = .ok (.i2l, 1)) (k : AW g own cc nL ret nm d c n K (pc + 1) L (.long x.toInt64 :: rest) h) : AW g own cc nL ret nm d c n K pc L (.int x :: rest) h :=
  fun p e s m args below meth c1 H locs cells slots mc ms R ls X hH hS hl => lv_i2l X.1 X.2.1 hd rfl (k p e s m args below meth c1 H locs cells slots mc ms R ls X hH hS hl)
theorem r_l2i {x : Int64} (hd : decode cc pc = .ok (.l2i, 1)) (k : AW g own cc nL ret nm d c n K (pc + 1) L (.int x.toInt32 :: rest) h) : AW g own cc nL ret nm d c n K pc L (.long x :: rest) h :=
  fun p e s m args below meth c1 H locs cells slots mc ms R ls X hH hS hl => lv_l2i X.1 X.2.1 hd rfl (k p e s m args below meth c1 H locs cells slots mc ms R ls X hH hS hl)
theorem r_i2b {x : Int32} (hd : decode cc pc = .ok (.i2b, 1)) (k : AW g own cc nL ret nm d c n K (pc + 1) L (.int x.toInt8.toInt32 :: rest) h) : AW g own cc nL ret nm d c n K pc L (.int x :: rest) h :=
  fun p e s m args below meth c1 H locs cells slots mc ms R ls X hH hS hl => lv_i2b X.1 X.2.1 hd rfl (k p e s m args below meth c1 H locs cells slots mc ms R ls X hH hS hl)
theorem r_i2s {x : Int32} (hd : decode cc pc = .ok (.i2s, 1)) (k : AW g own cc nL ret nm d c n K (pc + 1) L (.int x.toInt16.toInt32 :: rest) h) : AW g own cc nL ret nm d c n K pc L (.int x :: rest) h :=
  fun p e s m args below meth c1 H locs cells slots mc ms R ls X hH hS hl => lv_i2s X.1 X.2.1 hd rfl (k p e s m args below meth c1 H locs cells slots mc ms R ls X hH hS hl)
theorem r_i2c {x : Int32} (hd : decode cc pc = .ok (.i2c, 1)) (k : AW g own cc nL ret nm d c n K (pc + 1) L (.int (x.toUInt32 % 65536).toInt32 :: rest) h) : AW g own cc nL ret nm d c n K pc L (.int x :: rest) h :=
  fun p e s m args below meth c1 H locs cells slots mc ms R ls X hH hS hl => lv_i2c X.1 X.2.1 hd rfl (k p e s m args below meth c1 H locs cells slots mc ms R ls X hH hS hl)
theorem r_lcmp {x y : Int64} (hd : decode cc pc = .ok (.lcmp, 1)) (k : AW g own cc nL ret nm d c n K (pc + 1) L (.int (lg_cmp x y) :: rest) h) : AW g own cc nL ret nm d c n K pc L (.long y :: .long x :: rest) h :=
  fun p e s m args below meth c1 H locs cells slots mc ms R ls X hH hS hl => W.lcmp X.1 X.2.1 hd  (k p e s m args below meth c1 H locs cells slots mc ms R ls X hH hS hl)
theorem r_dup {v : Value} (hd : decode cc pc = .ok (.dup, 1)) (hv : v.category = 1) (k : AW g own cc nL ret nm d c n K (pc + 1) L (v :: v :: rest) h) : AW g own cc nL ret nm d c n K pc L (v :: rest) h :=
  fun p e s m args below meth c1 H locs cells slots mc ms R ls X hH hS hl => lv_dup X.1 X.2.1 hd hv (k p e s m args below meth c1 H locs cells slots mc ms R ls X hH hS hl)
theorem r_dup2 {v u : Value} (hd : decode cc pc = .ok (.dup2, 1)) (hv : v.category = 1) (hu : u.category = 1) (k : AW g own cc nL ret nm d c n K (pc + 1) L (v :: u :: v :: u :: rest) h) : AW g own cc nL ret nm d c n K pc L (v :: u :: rest) h :=
  fun p e s m args below meth c1 H locs cells slots mc ms R ls X hH hS hl => lv_dup2_11 X.1 X.2.1 hd hv hu (k p e s m args below meth c1 H locs cells slots mc ms R ls X hH hS hl)
theorem r_pop {v : Value} (hd : decode cc pc = .ok (.pop, 1)) (hv : v.category = 1) (k : AW g own cc nL ret nm d c n K (pc + 1) L rest h) : AW g own cc nL ret nm d c n K pc L (v :: rest) h :=
  fun p e s m args below meth c1 H locs cells slots mc ms R ls X hH hS hl => lv_pop X.1 X.2.1 hd hv (k p e s m args below meth c1 H locs cells slots mc ms R ls X hH hS hl)
theorem r_if_eq {x : Int32} {off : Int} {tgt : Nat} (hd : decode cc pc = .ok (.ifCond .eq off, 3)) (ht : (pc : Int) + off = (tgt : Int)) (k1 : (x = 0) → AW g own cc nL ret nm d c n K tgt L rest h) (k2 : ¬ (x = 0) → AW g own cc nL ret nm d c n K (pc + 3) L rest h) : AW g own cc nL ret nm d c n K pc L (.int x :: rest) h :=
  fun p e s m args below meth c1 H locs cells slots mc ms R ls X hH hS hl => lv_if_eq X.1 X.2.1 hd ht (fun q => k1 q p e s m args below meth c1 H locs cells slots mc ms R ls X hH hS hl) (fun q => k2 q p e s m args below meth c1 H locs cells slots mc ms R ls X hH hS hl)
theorem r_icmp_eq {x y : Int32} {off : Int} {tgt : Nat} (hd : decode cc pc = .ok (.if_icmp .eq off, 3)) (ht : (pc : Int) + off = (tgt : Int)) (k1 : (x = y) → AW g own cc nL ret nm d c n K tgt L rest h) (k2 : ¬ (x = y) → AW g own cc nL ret nm d c n K (pc + 3) L rest h) : AW g own cc nL ret nm d c n K pc L (.int y :: .int x :: rest) h :=
  fun p e s m args below meth c1 H locs cells slots mc ms R ls X hH hS hl => lv_icmp_eq X.1 X.2.1 hd ht (fun q => k1 q p e s m args below meth c1 H locs cells slots mc ms R ls X hH hS hl) (fun q => k2 q p e s m args below meth c1 H locs cells slots mc ms R ls X hH hS hl)
theorem r_if_ne {x : Int32} {off : Int} {tgt : Nat} (hd : decode cc pc = .ok (.ifCond .ne off, 3)) (ht : (pc : Int) + off = (tgt : Int)) (k1 : (¬ x = 0) → AW g own cc nL ret nm d c n K tgt L rest h) (k2 : (x = 0) → AW g own cc nL ret nm d c n K (pc + 3) L rest h) : AW g own cc nL ret nm d c n K pc L (.int x :: rest) h :=
  fun p e s m args below meth c1 H locs cells slots mc ms R ls X hH hS hl => lv_if_ne X.1 X.2.1 hd ht (fun q => k1 q p e s m args below meth c1 H locs cells slots mc ms R ls X hH hS hl) (fun q => k2 q p e s m args below meth c1 H locs cells slots mc ms R ls X hH hS hl)
theorem r_icmp_ne {x y : Int32} {off : Int} {tgt : Nat} (hd : decode cc pc = .ok (.if_icmp .ne off, 3)) (ht : (pc : Int) + off = (tgt : Int)) (k1 : (¬ x = y) → AW g own cc nL ret nm d c n K tgt L rest h) (k2 : (x = y) → AW g own cc nL ret nm d c n K (pc + 3) L rest h) : AW g own cc nL ret nm d c n K pc L (.int y :: .int x :: rest) h :=
  fun p e s m args below meth c1 H locs cells slots mc ms R ls X hH hS hl => lv_icmp_ne X.1 X.2.1 hd ht (fun q => k1 q p e s m args below meth c1 H locs cells slots mc ms R ls X hH hS hl) (fun q => k2 q p e s m args below meth c1 H locs cells slots mc ms R ls X hH hS hl)
theorem r_if_lt {x : Int32} {off : Int} {tgt : Nat} (hd : decode cc pc = .ok (.ifCond .lt off, 3)) (ht : (pc : Int) + off = (tgt : Int)) (k1 : (x < 0) → AW g own cc nL ret nm d c n K tgt L rest h) (k2 : ¬ (x < 0) → AW g own cc nL ret nm d c n K (pc + 3) L rest h) : AW g own cc nL ret nm d c n K pc L (.int x :: rest) h :=
  fun p e s m args below meth c1 H locs cells slots mc ms R ls X hH hS hl => lv_if_lt X.1 X.2.1 hd ht (fun q => k1 q p e s m args below meth c1 H locs cells slots mc ms R ls X hH hS hl) (fun q => k2 q p e s m args below meth c1 H locs cells slots mc ms R ls X hH hS hl)
theorem r_icmp_lt {x y : Int32} {off : Int} {tgt : Nat} (hd : decode cc pc = .ok (.if_icmp .lt off, 3)) (ht : (pc : Int) + off = (tgt : Int)) (k1 : (x < y) → AW g own cc nL ret nm d c n K tgt L rest h) (k2 : ¬ (x < y) → AW g own cc nL ret nm d c n K (pc + 3) L rest h) : AW g own cc nL ret nm d c n K pc L (.int y :: .int x :: rest) h :=
  fun p e s m args below meth c1 H locs cells slots mc ms R ls X hH hS hl => lv_icmp_lt X.1 X.2.1 hd ht (fun q => k1 q p e s m args below meth c1 H locs cells slots mc ms R ls X hH hS hl) (fun q => k2 q p e s m args below meth c1 H locs cells slots mc ms R ls X hH hS hl)
theorem r_if_ge {x : Int32} {off : Int} {tgt : Nat} (hd : decode cc pc = .ok (.ifCond .ge off, 3)) (ht : (pc : Int) + off = (tgt : Int)) (k1 : (0 ≤ x) → AW g own cc nL ret nm d c n K tgt L rest h) (k2 : ¬ (0 ≤ x) → AW g own cc nL ret nm d c n K (pc + 3) L rest h) : AW g own cc nL ret nm d c n K pc L (.int x :: rest) h :=
  fun p e s m args below meth c1 H locs cells slots mc ms R ls X hH hS hl => lv_if_ge X.1 X.2.1 hd ht (fun q => k1 q p e s m args below meth c1 H locs cells slots mc ms R ls X hH hS hl) (fun q => k2 q p e s m args below meth c1 H locs cells slots mc ms R ls X hH hS hl)
theorem r_icmp_ge {x y : Int32} {off : Int} {tgt : Nat} (hd : decode cc pc = .ok (.if_icmp .ge off, 3)) (ht : (pc : Int) + off = (tgt : Int)) (k1 : (y ≤ x) → AW g own cc nL ret nm d c n K tgt L rest h) (k2 : ¬ (y ≤ x) → AW g own cc nL ret nm d c n K (pc + 3) L rest h) : AW g own cc nL ret nm d c n K pc L (.int y :: .int x :: rest) h :=
  fun p e s m args below meth c1 H locs cells slots mc ms R ls X hH hS hl => lv_icmp_ge X.1 X.2.1 hd ht (fun q => k1 q p e s m args below meth c1 H locs cells slots mc ms R ls X hH hS hl) (fun q => k2 q p e s m args below meth c1 H locs cells slots mc ms R ls X hH hS hl)
theorem r_if_gt {x : Int32} {off : Int} {tgt : Nat} (hd : decode cc pc = .ok (.ifCond .gt off, 3)) (ht : (pc : Int) + off = (tgt : Int)) (k1 : (0 < x) → AW g own cc nL ret nm d c n K tgt L rest h) (k2 : ¬ (0 < x) → AW g own cc nL ret nm d c n K (pc + 3) L rest h) : AW g own cc nL ret nm d c n K pc L (.int x :: rest) h :=
  fun p e s m args below meth c1 H locs cells slots mc ms R ls X hH hS hl => lv_if_gt X.1 X.2.1 hd ht (fun q => k1 q p e s m args below meth c1 H locs cells slots mc ms R ls X hH hS hl) (fun q => k2 q p e s m args below meth c1 H locs cells slots mc ms R ls X hH hS hl)
theorem r_icmp_gt {x y : Int32} {off : Int} {tgt : Nat} (hd : decode cc pc = .ok (.if_icmp .gt off, 3)) (ht : (pc : Int) + off = (tgt : Int)) (k1 : (y < x) → AW g own cc nL ret nm d c n K tgt L rest h) (k2 : ¬ (y < x) → AW g own cc nL ret nm d c n K (pc + 3) L rest h) : AW g own cc nL ret nm d c n K pc L (.int y :: .int x :: rest) h :=
  fun p e s m args below meth c1 H locs cells slots mc ms R ls X hH hS hl => lv_icmp_gt X.1 X.2.1 hd ht (fun q => k1 q p e s m args below meth c1 H locs cells slots mc ms R ls X hH hS hl) (fun q => k2 q p e s m args below meth c1 H locs cells slots mc ms R ls X hH hS hl)
theorem r_if_le {x : Int32} {off : Int} {tgt : Nat} (hd : decode cc pc = .ok (.ifCond .le off, 3)) (ht : (pc : Int) + off = (tgt : Int)) (k1 : (x ≤ 0) → AW g own cc nL ret nm d c n K tgt L rest h) (k2 : ¬ (x ≤ 0) → AW g own cc nL ret nm d c n K (pc + 3) L rest h) : AW g own cc nL ret nm d c n K pc L (.int x :: rest) h :=
  fun p e s m args below meth c1 H locs cells slots mc ms R ls X hH hS hl => lv_if_le X.1 X.2.1 hd ht (fun q => k1 q p e s m args below meth c1 H locs cells slots mc ms R ls X hH hS hl) (fun q => k2 q p e s m args below meth c1 H locs cells slots mc ms R ls X hH hS hl)
theorem r_icmp_le {x y : Int32} {off : Int} {tgt : Nat} (hd : decode cc pc = .ok (.if_icmp .le off, 3)) (ht : (pc : Int) + off = (tgt : Int)) (k1 : (x ≤ y) → AW g own cc nL ret nm d c n K tgt L rest h) (k2 : ¬ (x ≤ y) → AW g own cc nL ret nm d c n K (pc + 3) L rest h) : AW g own cc nL ret nm d c n K pc L (.int y :: .int x :: rest) h :=
  fun p e s m args below meth c1 H locs cells slots mc ms R ls X hH hS hl => lv_icmp_le X.1 X.2.1 hd ht (fun q => k1 q p e s m args below meth c1 H locs cells slots mc ms R ls X hH hS hl) (fun q => k2 q p e s m args below meth c1 H locs cells slots mc ms R ls X hH hS hl)
theorem r_goto {off : Int} {tgt : Nat} (hd : decode cc pc = .ok (.goto off, 3)) (ht : (pc : Int) + off = (tgt : Int)) (k : AW g own cc nL ret nm d c n K tgt L rest h) : AW g own cc nL ret nm d c n K pc L rest h :=
  fun p e s m args below meth c1 H locs cells slots mc ms R ls X hH hS hl => lv_goto X.1 X.2.1 hd ht (k p e s m args below meth c1 H locs cells slots mc ms R ls X hH hS hl)
theorem r_ifnullN {off : Int} {tgt : Nat} (hd : decode cc pc = .ok (.ifnull off, 3)) (ht : (pc : Int) + off = (tgt : Int)) (k : AW g own cc nL ret nm d c n K tgt L rest h) : AW g own cc nL ret nm d c n K pc L (.null :: rest) h :=
  fun p e s m args below meth c1 H locs cells slots mc ms R ls X hH hS hl => lv_ifnullN X.1 X.2.1 hd ht (k p e s m args below meth c1 H locs cells slots mc ms R ls X hH hS hl)
theorem r_ifnonnull {x : Nat} {off : Int} {tgt : Nat} (hd : decode cc pc = .ok (.ifnonnull off, 3)) (ht : (pc : Int) + off = (tgt : Int)) (k : AW g own cc nL ret nm d c n K tgt L rest h) : AW g own cc nL ret nm d c n K pc L (.ref x :: rest) h :=
  fun p e s m args below meth c1 H locs cells slots mc ms R ls X hH hS hl => lv_ifnonnull X.1 X.2.1 hd ht (k p e s m args below meth c1 H locs cells slots mc ms R ls X hH hS hl)
theorem r_ifnull {x : Nat} {off : Int} (hd : decode cc pc = .ok (.ifnull off, 3)) (k : AW g own cc nL ret nm d c n K (pc + 3) L rest h) : AW g own cc nL ret nm d c n K pc L (.ref x :: rest) h :=
  fun p e s m args below meth c1 H locs cells slots mc ms R ls X hH hS hl => lv_ifnull X.1 X.2.1 hd  (k p e s m args below meth c1 H locs cells slots mc ms R ls X hH hS hl)
theorem r_ifnonnullN {off : Int} (hd : decode cc pc = .ok (.ifnonnull off, 3)) (k : AW g own cc nL ret nm d c n K (pc + 3) L rest h) : AW g own cc nL ret nm d c n K pc L (.null :: rest) h :=
  fun p e s m args below meth c1 H locs cells slots mc ms R ls X hH hS hl => lv_ifnonnullN X.1 X.2.1 hd  (k p e s m args below meth c1 H locs cells slots mc ms R ls X hH hS hl)
theorem r_tabOut {dflt lo hi : Int} {offs : Array Int} {len : Nat} {x : Int32} {tgt : Nat} (hd : decode cc pc = .ok (.tableswitch dflt lo hi offs, len)) (h1 : x.toInt < lo ∨ hi < x.toInt) (ht : (pc : Int) + dflt = (tgt : Int)) (k : AW g own cc nL ret nm d c n K tgt L rest h) : AW g own cc nL ret nm d c n K pc L (.int x :: rest) h :=
  fun p e s m args below meth c1 H locs cells slots mc ms R ls X hH hS hl => lv_tableOut X.1 X.2.1 hd h1 ht (k p e s m args below meth c1 H locs cells slots mc ms R ls X hH hS hl)
theorem r_tabIn {dflt lo hi : Int} {offs : Array Int} {len : Nat} {x : Int32} {off : Int} {tgt : Nat} (hd : decode cc pc = .ok (.tableswitch dflt lo hi offs, len)) (h1 : ¬ x.toInt < lo) (h2 : ¬ hi < x.toInt) (ho : offs[(x.toInt - lo).toNat]? = some off) (ht : (pc : Int) + off = (tgt : Int)) (k : AW g own cc nL ret nm d c n K tgt L rest h) : AW g own cc nL ret nm d c n K pc L (.int x :: rest) h :=
  fun p e s m args below meth c1 H locs cells slots mc ms R ls X hH hS hl => lv_tableIn X.1 X.2.1 hd h1 h2 ho ht (k p e s m args below meth c1 H locs cells slots mc ms R ls X hH hS hl)
theorem r_look {dflt : Int} {ps : Array (Int × Int)} {len : Nat} {x : Int32} {off : Int} {tgt : Nat} (hd : decode cc pc = .ok (.lookupswitch dflt ps, len)) (hp : (ps.toList.zip (ps.toList.drop 1)).all (fun (a, next) => a.1 < next.1) = true) (ho : Op.lookupswitch.offset ps.toList dflt x.toInt = off) (ht : (pc : Int) + off = (tgt : Int)) (k : AW g own cc nL ret nm d c n K tgt L rest h) : AW g own cc nL ret nm d c n K pc L (.int x :: rest) h :=
  fun p e s m args below meth c1 H locs cells slots mc ms R ls X hH hS hl => lv_lookup X.1 X.2.1 hd hp ho ht (k p e s m args below meth c1 H locs cells slots mc ms R ls X hH hS hl)
theorem r_ldc {idx : Nat} {v : Int32} (hd : decode cc pc = .ok (.ldc idx, 2)) (hw : Cond.constant own idx v ∈ tb) (k : AW g own cc nL ret nm d c n K (pc + 2) L (.int v :: rest) h) : AW g own cc nL ret nm d c n K pc L rest h :=
  fun p e s m args below meth c1 H locs cells slots mc ms R ls X hH hS hl => lv_ldc X.1 X.2.1 X.2.2.2.2.2.2.1 (X.2.2.2.2.2.2.2.1 _ hw) hd (k p e s m args below meth c1 H locs cells slots mc ms R ls X hH hS hl)
theorem r_ldc2 {idx : Nat} {v : Int64} (hd : decode cc pc = .ok (.ldc2_w idx, 3)) (hw : Cond.constantLong own idx v ∈ tb) (k : AW g own cc nL ret nm d c n K (pc + 3) L (.long v :: rest) h) : AW g own cc nL ret nm d c n K pc L rest h :=
  fun p e s m args below meth c1 H locs cells slots mc ms R ls X hH hS hl => lv_ldc2 X.1 X.2.1 X.2.2.2.2.2.2.1 (X.2.2.2.2.2.2.2.1 _ hw) hd (k p e s m args below meth c1 H locs cells slots mc ms R ls X hH hS hl)
end R1
section R2
variable {g : GC} {own : String} {cc : ByteArray} {nL : Nat} {ret : Option FieldType} {nm : String} {d c n : Nat} {K : Option Value → hH → Prop} {pc : Nat} {L : List (Nat × Value)} {rest : List Value} {h : hH}
/-- where a field lies: class ci, slot k, by entry idx of own's pool -/
def FL (own : String) (idx ci k : Nat) : Prop := ∃ (C : String) (T : u_T) (N : Nat), vwCl[ci]? = some (C, T, N) ∧ k < N ∧ (∀ w ∈ u_ws C T N, w ∈ tb) ∧ Cond.fieldLink own idx (T k).1 (T k).2.1 (T k).2.2.1 ∈ tb
def FP (own : String) (idx ci k : Nat) (ty : FieldType) (fin : Bool) : Prop := ∃ (C : String) (T : u_T) (N : Nat) (ty0 : Nat → FieldType), vwCl[ci]? = some (C, T, N) ∧ k < N ∧ (∀ w ∈ u_ws C T N, w ∈ tb) ∧ Cond.fieldLink own idx (T k).1 (T k).2.1 (T k).2.2.1 ∈ tb ∧ (∀ k, k < N → parseFieldDescriptor (T k).2.2.1 = some (ty0 k)) ∧ (∀ a, a < N → ∀ b, b < N → a ≠ b → (T a).2.1 ≠ (T b).2.1) ∧ (T k).2.2.2 = fin ∧ parseFieldDescriptor (T k).2.2.1 = some ty ∧ (fin = true → (T k).1 = own)
theorem r_getf {a idx ci k : Nat} {fs : List Value} {v : Value} (hd : decode cc pc = .ok (.getfield idx, 3)) (hf : FL own idx ci k) (ha : h a = some (.inr (ci, fs))) (hv : fs[k]? = some v) (kk : AW g own cc nL ret nm d c n K (pc + 3) L (v :: rest) h) : AW g own cc nL ret nm d c n K pc L (.ref a :: rest) h := by
  intro p e s m args below meth c1 H locs cells slots mc ms R ls X hH hS hl
  obtain ⟨C, T, N, h1, h2, h3, h4⟩ := hf
  obtain ⟨ws, hP, hD, hi⟩ := id hH
  obtain ⟨q0, hq⟩ := HP.at hi ha
  exact va_get X.1 X.2.1 (Ts := tb) X.2.2.2.2.2.2.2.1 h3 X.2.2.2.2.2.2.1 X.2.2.2.2.2.2.2.2.2.1 hP q0 hq h1 k h2 (X.2.2.2.2.2.2.2.1 _ h4) (fun _ z => z) hv hd (kk p e s m args below meth c1 H locs cells slots mc ms R ls X hH hS hl)
theorem r_putf {a idx ci k : Nat} {fs : List Value} {v : Value} {ty : FieldType} (hd : decode cc pc = .ok (.putfield idx, 3)) (hf : FP own idx ci k ty false) (ha : h a = some (.inr (ci, fs))) (hn : narrow ty v = v) (hfit : fits ty v = true) (hk : k < fs.length) (kk : AW g own cc nL ret nm d c n K (pc + 3) L rest (hu h a (.inr (ci, fs.set k v)))) : AW g own cc nL ret nm d c n K pc L (v :: .ref a :: rest) h := by
  intro p e s m args below meth c1 H locs cells slots mc ms R ls X hH hS hl
  obtain ⟨C, T, N, ty0, h1, h2, h3, h4, h5, h6, h7, h8, -⟩ := hf
  obtain ⟨ws, hP, hD, hi⟩ := id hH
  obtain ⟨q0, hq⟩ := HP.at hi ha
  exact va_put X.1 X.2.1 (Ts := tb) X.2.2.2.2.2.2.2.1 h3 ty0 h5 h6 X.2.2.2.2.2.2.1 X.2.2.2.2.2.2.2.2.2.1 hP hD hS q0 hq h1 k h2 (X.2.2.2.2.2.2.2.1 _ h4) (fun _ z => z) h7 h8 hn hfit hk hd (fun H1 locs1 hP1 hD1 hS1 => kk p e s m args below meth c1 H1 locs1 cells slots mc ms R ls X (HP.set hD hi hq hP1 hD1) hS1 hl)
theorem r_putF {a idx ci k : Nat} {fs : List Value} {v : Value} {ty : FieldType} (hd : decode cc pc = .ok (.putfield idx, 3)) (hf : FP own idx ci k ty true) (hi0 : nm = "<init>") (ha : h a = some (.inr (ci, fs))) (hn : narrow ty v = v) (hfit : fits ty v = true) (hk : k < fs.length) (kk : AW g own cc nL ret nm d c n K (pc + 3) L rest (hu h a (.inr (ci, fs.set k v)))) : AW g own cc nL ret nm d c n K pc L (v :: .ref a :: rest) h := by
  intro p e s m args below meth c1 H locs cells slots mc ms R ls X hH hS hl
  obtain ⟨C, T, N, ty0, h1, h2, h3, h4, h5, h6, h7, h8, h9⟩ := hf
  obtain ⟨ws, hP, hD, hi⟩ := id hH
  obtain ⟨q0, hq⟩ := HP.at hi ha
  exact va_putF X.1 X.2.1 (Ts := tb) X.2.2.2.2.2.2.2.1 h3 ty0 h5 h6 X.2.2.2.2.2.2.1 X.2.2.2.2.2.2.2.2.2.1 hP hD hS q0 hq h1 k h2 (X.2.2.2.2.2.2.2.1 _ h4) (fun _ z => z) h7 (X.2.2.2.2.2.1.trans hi0) (h9 rfl) h8 hn hfit hk hd (fun H1 locs1 hP1 hD1 hS1 => kk p e s m args below meth c1 H1 locs1 cells slots mc ms R ls X (HP.set hD hi hq hP1 hD1) hS1 hl)
theorem r_iald {a N : Nat} {f : Nat → Int32} {i : Int32} (hd : decode cc pc = .ok (.iaload, 1)) (ha : h a = some (.inl (0, N, .inl f))) (hin : vp_in i N) (kk : AW g own cc nL ret nm d c n K (pc + 1) L (.int (f i.toNatClampNeg) :: rest) h) : AW g own cc nL ret nm d c n K pc L (.int i :: .ref a :: rest) h := by
  intro p e s m args below meth c1 H locs cells slots mc ms R ls X hH hS hl
  obtain ⟨ws, hP, hD, hi⟩ := id hH
  obtain ⟨q0, hq⟩ := HP.at hi ha
  exact va_iald X.1 X.2.1 X.2.2.2.2.2.2.2.2.2.1 hP q0 0 hq rfl hin hd (kk p e s m args below meth c1 H locs cells slots mc ms R ls X hH hS hl)
theorem r_bald {a N : Nat} {f : Nat → Int32} {i : Int32} (hd : decode cc pc = .ok (.baload, 1)) (ha : h a = some (.inl (1, N, .inl f))) (hin : vp_in i N) (kk : AW g own cc nL ret nm d c n K (pc + 1) L (.int (f i.toNatClampNeg) :: rest) h) : AW g own cc nL ret nm d c n K pc L (.int i :: .ref a :: rest) h := by
  intro p e s m args below meth c1 H locs cells slots mc ms R ls X hH hS hl
  obtain ⟨ws, hP, hD, hi⟩ := id hH
  obtain ⟨q0, hq⟩ := HP.at hi ha
  exact va_bald X.1 X.2.1 X.2.2.2.2.2.2.2.2.2.1 hP q0 1 hq rfl hin hd (kk p e s m args below meth c1 H locs cells slots mc ms R ls X hH hS hl)
theorem r_zald {a N : Nat} {f : Nat → Int32} {i : Int32} (hd : decode cc pc = .ok (.baload, 1)) (ha : h a = some (.inl (2, N, .inl f))) (hin : vp_in i N) (kk : AW g own cc nL ret nm d c n K (pc + 1) L (.int (f i.toNatClampNeg) :: rest) h) : AW g own cc nL ret nm d c n K pc L (.int i :: .ref a :: rest) h := by
  intro p e s m args below meth c1 H locs cells slots mc ms R ls X hH hS hl
  obtain ⟨ws, hP, hD, hi⟩ := id hH
  obtain ⟨q0, hq⟩ := HP.at hi ha
  exact va_zald X.1 X.2.1 X.2.2.2.2.2.2.2.2.2.1 hP q0 2 hq rfl hin hd (kk p e s m args below meth c1 H locs cells slots mc ms R ls X hH hS hl)
theorem r_iast {a N : Nat} {f : Nat → Int32} {i x : Int32} (hd : decode cc pc = .ok (.iastore, 1)) (ha : h a = some (.inl (0, N, .inl f))) (hin : vp_in i N) (kk : AW g own cc nL ret nm d c n K (pc + 1) L rest (hu h a (.inl (0, N, .inl (upd f i.toNatClampNeg x))))) : AW g own cc nL ret nm d c n K pc L (.int x :: .int i :: .ref a :: rest) h := by
  intro p e s m args below meth c1 H locs cells slots mc ms R ls X hH hS hl
  obtain ⟨ws, hP, hD, hi⟩ := id hH
  obtain ⟨q0, hq⟩ := HP.at hi ha
  exact va_iast X.1 X.2.1 X.2.2.2.2.2.2.2.2.2.1 hP hD hS q0 0 hq rfl hin hd (fun H1 locs1 hP1 hD1 hS1 => kk p e s m args below meth c1 H1 locs1 cells slots mc ms R ls X (HP.set (e1 := .inl (0, N, .inl (upd f i.toNatClampNeg x))) hD hi hq hP1 hD1) hS1 hl)
theorem r_bast {a N : Nat} {f : Nat → Int32} {i x : Int32} (hd : decode cc pc = .ok (.bastore, 1)) (ha : h a = some (.inl (1, N, .inl f))) (hin : vp_in i N) (kk : AW g own cc nL ret nm d c n K (pc + 1) L rest (hu h a (.inl (1, N, .inl (upd f i.toNatClampNeg (vp_nar .byte x)))))) : AW g own cc nL ret nm d c n K pc L (.int x :: .int i :: .ref a :: rest) h := by
  intro p e s m args below meth c1 H locs cells slots mc ms R ls X hH hS hl
  obtain ⟨ws, hP, hD, hi⟩ := id hH
  obtain ⟨q0, hq⟩ := HP.at hi ha
  exact va_bast X.1 X.2.1 X.2.2.2.2.2.2.2.2.2.1 hP hD hS q0 1 hq rfl hin hd (fun H1 locs1 hP1 hD1 hS1 => kk p e s m args below meth c1 H1 locs1 cells slots mc ms R ls X (HP.set (e1 := .inl (1, N, .inl (upd f i.toNatClampNeg (vp_nar .byte x)))) hD hi hq hP1 hD1) hS1 hl)
theorem r_zast {a N : Nat} {f : Nat → Int32} {i x : Int32} (hd : decode cc pc = .ok (.bastore, 1)) (ha : h a = some (.inl (2, N, .inl f))) (hin : vp_in i N) (kk : AW g own cc nL ret nm d c n K (pc + 1) L rest (hu h a (.inl (2, N, .inl (upd f i.toNatClampNeg (vp_nar .boolean x)))))) : AW g own cc nL ret nm d c n K pc L (.int x :: .int i :: .ref a :: rest) h := by
  intro p e s m args below meth c1 H locs cells slots mc ms R ls X hH hS hl
  obtain ⟨ws, hP, hD, hi⟩ := id hH
  obtain ⟨q0, hq⟩ := HP.at hi ha
  exact va_zast X.1 X.2.1 X.2.2.2.2.2.2.2.2.2.1 hP hD hS q0 2 hq rfl hin hd (fun H1 locs1 hP1 hD1 hS1 => kk p e s m args below meth c1 H1 locs1 cells slots mc ms R ls X (HP.set (e1 := .inl (2, N, .inl (upd f i.toNatClampNeg (vp_nar .boolean x)))) hD hi hq hP1 hD1) hS1 hl)
theorem r_alen {a t0 : Nat} {x : vp_A} {ty : FieldType} (hd : decode cc pc = .ok (.arraylength, 1)) (ha : h a = some (.inl (t0, x))) (ht : (tys (gA g))[t0]? = some (gA g t0, ty)) (kk : AW g own cc nL ret nm d c n K (pc + 1) L (.int (Int32.ofNat x.1) :: rest) h) : AW g own cc nL ret nm d c n K pc L (.ref a :: rest) h := by
  intro p e s m args below meth c1 H locs cells slots mc ms R ls X hH hS hl
  obtain ⟨ws, hP, hD, hi⟩ := id hH
  obtain ⟨q0, hq⟩ := HP.at hi ha
  exact va_alen X.1 X.2.1 X.2.2.2.2.2.2.2.2.2.1 hP q0 t0 hq ht rfl hd (kk p e s m args below meth c1 H locs cells slots mc ms R ls X hH hS hl)
theorem r_aald {a t0 N : Nat} {f : Nat → Option Nat} {C : String} {i : Int32} {v : Value} (hd : decode cc pc = .ok (.aaload, 1)) (ha : h a = some (.inl (t0, N, .inr (.inr (.inr (.inr f)))))) (ht : (tys (gA g))[t0]? = some (gA g t0, .object C)) (hin : vp_in i N) (hv : va_rf (f i.toNatClampNeg) = v) (kk : AW g own cc nL ret nm d c n K (pc + 1) L (v :: rest) h) : AW g own cc nL ret nm d c n K pc L (.int i :: .ref a :: rest) h := by
  intro p e s m args below meth c1 H locs cells slots mc ms R ls X hH hS hl
  obtain ⟨ws, hP, hD, hi⟩ := id hH
  obtain ⟨q0, hq⟩ := HP.at hi ha
  subst hv
  exact va_aldq X.1 X.2.1 X.2.2.2.2.2.2.2.2.2.1 hP q0 t0 hq ht hin hd (kk p e s m args below meth c1 H locs cells slots mc ms R ls X hH hS hl)
theorem r_aast {a b t0 ci N : Nat} {f : Nat → Option Nat} {r : vw_C} {vs : List Value} {i : Int32} (hd : decode cc pc = .ok (.aastore, 1)) (ha : h a = some (.inl (t0, N, .inr (.inr (.inr (.inr f)))))) (ht : (tys (gA g))[t0]? = some (gA g t0, .object r.1)) (hb : h b = some (.inr (ci, vs))) (hc : vwCl[ci]? = some r) (hin : vp_in i N) (kk : AW g own cc nL ret nm d c n K (pc + 1) L rest (hu h a (.inl (t0, N, .inr (.inr (.inr (.inr (va_up f i.toNatClampNeg (some b))))))))) : AW g own cc nL ret nm d c n K pc L (.ref b :: .int i :: .ref a :: rest) h := by
  intro p e s m args below meth c1 H locs cells slots mc ms R ls X hH hS hl
  obtain ⟨ws, hP, hD, hi⟩ := id hH
  obtain ⟨q0, hq⟩ := HP.at hi ha
  obtain ⟨qk, hqk⟩ := HP.at hi hb
  exact va_astq X.1 X.2.1 X.2.2.2.2.2.2.2.2.2.1 hP hD hS q0 t0 qk ci hq ht hqk hc hin hd (fun H1 locs1 hP1 hD1 hS1 => kk p e s m args below meth c1 H1 locs1 cells slots mc ms R ls X (HP.set (e1 := .inl (t0, N, .inr (.inr (.inr (.inr (va_up f i.toNatClampNeg (some b))))))) hD hi hq hP1 hD1) hS1 hl)
theorem r_newa {atype : ArrayType} {t0 N : Nat} {ty : FieldType} {z : Int32} {a0 : vp_A} (hd : decode cc pc = .ok (.newarray atype, 2)) (hw : Cond.arrayClass (newarray.typeOf atype) ∈ tb) (hty : newarray.typeOf atype = ty) (ht : (tys (gA g))[t0]? = some (gA g t0, ty)) (hobj : ∀ C, ty ≠ .object C) (ha : ∀ cA : ClassId, vp_cell cA a0 = arrV cA N (fun _ => defaultValue ty)) (hz : ¬ z < 0) (hN : z.toNatClampNeg = N) (hbytes : N * componentBytes ty ≤ 536870912) (h1 : 1 ≤ c) (h2 : N ≤ n)
    (kk : ∀ q : Nat, h q = none → AW g own cc nL ret nm d (c - 1) (n - N) K (pc + 2) L (.ref q :: rest) (hu h q (.inl (t0, a0)))) : AW g own cc nL ret nm d c n K pc L (.int z :: rest) h := by
  intro p e s m args below meth c1 H locs cells slots mc ms R ls X hH hS hl
  obtain ⟨ws, hP, hD, hi⟩ := id hH
  obtain ⟨x1, x2, x3, x4, x5, x6, x7, x8, x9, x10, x11, x12, x13, x14, x15, x16, x17, x18⟩ := X
  refine va_newa (atype := atype) x1 x2 (x8 _ hw) hty x10 hP hD hS (fun q hq => Nat.le_trans x12 hq) ha hz hN hbytes (by omega) (by omega) hd (fun q cA H1 hK1 hP1 hD1 hS1 => ?_)
  have hcA : cA = gA g t0 := by
    have e1 := (hK1.2 (tys (gA g)).length (cA, ty) (by simp)).2
    have e2 := (x10.2 t0 _ ht).2
    cases ty with
    | object C => exact absurd rfl (hobj C)
    | _ => exact Option.some.inj (Eq.trans (Eq.symm e1) e2)
  subst hcA
  obtain ⟨hn, hH1⟩ := HP.push (e1 := .inl (t0, a0)) hi hP1 hD1
  exact kk q hn p e s m args below meth c1 H1 locs (cells + 1) (slots + N) mc ms R ls ⟨x1, x2, x3, x4, x5, x6, x7, x8, x9, x10, x11, x12, by omega, by omega, x15, x16, x17, x18⟩ hH1 hS1 hl
/-- a class that is made: its entry, its fields at first -/
def NW (own : String) (idx ci N : Nat) (fs : List Value) : Prop := ∃ (C : String) (T : u_T) (ty : Nat → FieldType), vwCl[ci]? = some (C, T, N) ∧ (∀ w ∈ u_ws C T N, w ∈ tb) ∧ (∀ k, k < N → parseFieldDescriptor (T k).2.2.1 = some (ty k)) ∧ Cond.classLink own idx C ∈ tb ∧ Cond.instantiable C N ∈ tb ∧ Cond.initialized C ∈ tb ∧ ∀ j, j < N → defaultValue (ty j) = vp_V fs j
theorem r_new {idx ci N : Nat} {fs : List Value} (hd : decode cc pc = .ok (.new idx, 3)) (hw : NW own idx ci N fs) (h1 : 1 ≤ c) (h2 : N ≤ n)
    (kk : ∀ q : Nat, h q = none → AW g own cc nL ret nm d (c - 1) (n - N) K (pc + 3) L (.ref q :: rest) (hu h q (.inr (ci, fs)))) : AW g own cc nL ret nm d c n K pc L rest h := by
  intro p e s m args below meth c1 H locs cells slots mc ms R ls X hH hS hl
  obtain ⟨ws, hP, hD, hi⟩ := id hH
  obtain ⟨x1, x2, x3, x4, x5, x6, x7, x8, x9, x10, x11, x12, x13, x14, x15, x16, x17, x18⟩ := X
  obtain ⟨C, T, ty, w1, w2, w3, w4, w5, w6, w7⟩ := hw
  refine va_new x1 x2 (Ts := tb) x8 w2 ty w3 x7 (x8 _ w4) (x8 _ w5) (x8 _ w6) x10 hP hD hS (fun q hq => Nat.le_trans x12 hq) w1 w7 (by omega) (by omega) hd (fun q H1 hP1 hD1 hS1 => ?_)
  obtain ⟨hn, hH1⟩ := HP.push (e1 := .inr (ci, fs)) hi hP1 hD1
  exact kk q hn p e s m args below meth c1 H1 locs (cells + 1) (slots + N) mc ms R ls ⟨x1, x2, x3, x4, x5, x6, x7, x8, x9, x10, x11, x12, by omega, by omega, x15, x16, x17, x18⟩ hH1 hS1 hl
theorem r_iret {x : Int32} {ty : FieldType} (hd : decode cc pc = .ok (.ireturn, 1)) (hr : ret = some ty) (hn : narrow ty (.int x) = .int x) (hk : K (some (.int x)) h) : AW g own cc nL ret nm d c n K pc L [.int x] h := by
  intro p e s m args below meth c1 H locs cells slots mc ms R ls X hH hS hl
  obtain ⟨x1, x2, x3, x4, x5, x6, x7, x8, x9, x10, x11, x12, x13, x14, x15, x16, x17, x18⟩ := X
  refine W.widen (k := mc) (n := ms) (by omega) (by omega) ?_
  exact W.zret x1 x2 (x4.trans hr) hn (fun t ht hW => ⟨⟨_, h, rfl, hk, by rw [ht]; exact hH⟩, hS.F ht⟩) hS.2.2 hd x5
theorem r_lret {x : Int64} (hd : decode cc pc = .ok (.lreturn, 1)) (hr : ret = some .long) (hk : K (some (.long x)) h) : AW g own cc nL ret nm d c n K pc L [.long x] h := by
  intro p e s m args below meth c1 H locs cells slots mc ms R ls X hH hS hl
  obtain ⟨x1, x2, x3, x4, x5, x6, x7, x8, x9, x10, x11, x12, x13, x14, x15, x16, x17, x18⟩ := X
  refine W.widen (k := mc) (n := ms) (by omega) (by omega) ?_
  exact W.lret x1 x2 (x4.trans hr) (fun t ht hW => ⟨⟨_, h, rfl, hk, by rw [ht]; exact hH⟩, hS.F ht⟩) hS.2.2 hd x5
theorem r_aret {v : Value} {rt : FieldType} (hd : decode cc pc = .ok (.areturn, 1)) (hr : ret = some rt) (hrt : (∃ n, rt = .object n) ∨ ∃ t, rt = .array t) (hv : v = .null ∨ ∃ a, v = .ref a) (hk : K (some v) h) : AW g own cc nL ret nm d c n K pc L [v] h := by
  intro p e s m args below meth c1 H locs cells slots mc ms R ls X hH hS hl
  obtain ⟨x1, x2, x3, x4, x5, x6, x7, x8, x9, x10, x11, x12, x13, x14, x15, x16, x17, x18⟩ := X
  refine W.widen (k := mc) (n := ms) (by omega) (by omega) ?_
  exact W.aret x1 x2 (x4.trans hr) hrt hv (fun t ht hW => ⟨⟨_, h, rfl, hk, by rw [ht]; exact hH⟩, hS.F ht⟩) hS.2.2 hd x5
theorem r_vret (hd : decode cc pc = .ok (.return_, 1)) (hr : ret = none) (hk : K none h) : AW g own cc nL ret nm d c n K pc L [] h := by
  intro p e s m args below meth c1 H locs cells slots mc ms R ls X hH hS hl
  obtain ⟨x1, x2, x3, x4, x5, x6, x7, x8, x9, x10, x11, x12, x13, x14, x15, x16, x17, x18⟩ := X
  refine W.widen (k := mc) (n := ms) (by omega) (by omega) ?_
  exact W.vret x1 x2 (x4.trans hr) (fun t ht hW => ⟨⟨_, h, rfl, hk, by rw [ht]; exact hH⟩, hS.F ht⟩) hS.2.2 hd x5
/-- a method's contract out of its body's walk -/
theorem AM.of {y : MethodName} {maxL : Nat} {args0 : List Value} {L0 : List (Nat × Value)} (hy : plainName y.cls = true) (hl0 : (lg_sl args0).length ≤ maxL) (hL : lv_args 0 args0 = L0) (k : AW g y.cls cc maxL ret y.name d c n K 0 L0 [] h) : AM g d c n y cc maxL ret args0 h K := by
  refine Met.ofW (cc := cc) (maxL := maxL) (ret := ret) hy rfl ?_
  intro p e s m args below meth c1 s₁ B hml hv
  obtain ⟨rfl, hRok, hK, hR, hN, hH⟩ := hv
  have hts := atoms_spec (ws := .code y cc maxL ret :: tb) B.pre
  have hl := lv_entry args0 (n := maxL) hl0
  rw [hL] at hl
  rw [lg_entry_eq]
  exact k p e s m _ below meth c1 s.heap [] 0 0 c n _ _ ⟨B.exec, B.bytes, hml, B.returns, B.notSynchronized, (name_of_methodNamed B.named B.method).1, findClass_of_methodNamed B.named, fun w hw => hts w (List.mem_cons_of_mem _ hw), hRok, hK, hR, hN, by omega, by omega, Nat.le_refl _, Nat.le_refl _, Nat.le_refl _, Nat.le_refl _⟩ hH va_S.rf hl
/-- what a callee says comes to its caller -/
theorem r_back {p : Program} {e : Env} {s : State} {m : MethodId} {args : Array Value} {below : List Frame} {meth : Method} {c' : Code} {H : Heap} {locs : List Loc} {cells slots mc ms : Nat} {R : Room} {ls : Array Slot} {Q : State → Prop} {st0 : List Value} {a : Array Value}
    (hr : va_Run p (gl g) e R s m args below meth c' H locs cells slots mc ms (F0 m pc ls st0) rest (Qk g K a) (fun q => gN g ≤ q)) (hS : va_S (fun q => gN g ≤ q) s.heap H locs)
    (kk : ∀ (v : Option Value) (h' : hH) (H1 : Heap) (locs1 : List Loc), K v h' → HP g h' H1 → va_S (fun q => gN g ≤ q) s.heap H1 locs1 → W p (gl g) e R s m args below meth c' H1 locs1 (cells + mc) (slots + ms) Q (F0 m (pc + 3) ls (v.toList ++ rest))) : W p (gl g) e R s m args below meth c' H locs cells slots Q (F0 m pc ls st0) := by
  intro T hT X
  obtain ⟨v, st₀, t, T', L9, h0, X', hL, e1, e2, ⟨⟨v', h', hv, hp, hb⟩, hz, hk⟩, st⟩ := hr T hT X
  cases hv
  rw [h0] at hz hk
  obtain ⟨t2, a1, b1⟩ := kk v h' T'.heap (locs ++ L9) hp (by rw [e1]; exact hb)
    ⟨Nat.le_trans hS.1 (by rw [e1]; exact hz), fun q h1 h2 => by rw [e1, hk q (Nat.lt_of_lt_of_le h1 hS.1) h2]; exact hS.2.1 q h1 h2, fun q hq => by
      rcases List.mem_append.mp hq with h | h
      · exact hS.2.2 q h
      · exact hL q h⟩ T' rfl X'
  exact ⟨t2, st t2 a1, b1⟩
/-- a callee's words: by invokevirtual, by invokestatic, a constructor's -/
def MV (y : MethodName) (cy : ByteArray) (maxL : Nat) (rt : Option FieldType) (k : Nat) : Prop := Cond.instanceMethod y ∈ tb ∧ Cond.selects y.cls y y ∈ tb ∧ Cond.initialized y.cls ∈ tb ∧ Cond.code y cy maxL rt ∈ tb ∧ (y.cls ≠ "java/lang/invoke/MethodHandle" ∧ y.cls ≠ "java/lang/invoke/VarHandle" ∧ (parseMethodDescriptor y.desc).map (fun d => d.parameters.length) = some k) ∧ maxL ≤ 40
def MS (y : MethodName) (cy : ByteArray) (maxL : Nat) (rt : Option FieldType) (k : Nat) : Prop := Cond.static y ∈ tb ∧ Cond.initialized y.cls ∈ tb ∧ Cond.code y cy maxL rt ∈ tb ∧ (y.cls ≠ "java/lang/invoke/MethodHandle" ∧ y.cls ≠ "java/lang/invoke/VarHandle" ∧ (parseMethodDescriptor y.desc).map (fun d => d.parameters.length) = some k) ∧ maxL ≤ 40
def MI (y : MethodName) (cy : ByteArray) (maxL : Nat) (k : Nat) : Prop := y.name = "<init>" ∧ Cond.instanceMethod y ∈ tb ∧ Cond.initialized y.cls ∈ tb ∧ Cond.code y cy maxL none ∈ tb ∧ (y.cls ≠ "java/lang/invoke/MethodHandle" ∧ y.cls ≠ "java/lang/invoke/VarHandle" ∧ (parseMethodDescriptor y.desc).map (fun d => d.parameters.length) = some k) ∧ maxL ≤ 40
theorem Pk.blind {av : List Value} : FrameBlind (va_Pc av (Pk g h)) := by
  intro a U gg mk q
  obtain ⟨q0, q1, qK, qR, qN, qH⟩ := q
  exact ⟨q0, q1, va_K.moved (u := U) (U := U.calling gg mk a) (Vm.Alike.refl U.vm) qK, q1 U _ (State.WarmedH.refl U) (fun _ _ => rfl) qR, qN, qH⟩
theorem Pk.call {s U : State} {H : Heap} {locs : List Loc} (x9 : Rok g) (x10 : va_K (gD g) vwCl (tys (gA g)) s) (x11 : gR g s) (x12 : gN g ≤ s.heap.size) (hH : HP g h H) (hS : va_S (fun q => gN g ≤ q) s.heap H locs) (hU : U.heap = H) (hW : s.WarmedH U.vm) : Pk g h U :=
  ⟨x9, va_K.moved hW.alike x10, x9 s U hW (fun q hq => by rw [hU]; exact hS.2.1 q (Nat.lt_of_lt_of_le hq x12) (Nat.not_le.mpr hq)) x11, by rw [hU]; exact Nat.le_trans x12 hS.1, by rw [hU]; exact hH⟩
theorem GoodIn.tb {ws : List Cond} (hw : ∀ w ∈ ws, w ∈ tb) : GoodIn tb ws := fun w h => tb_good w (hw w h)
theorem r_callV {y : MethodName} {cy : ByteArray} {maxL k0 idx b d1 c1 n1 ci : Nat} {rt : Option FieldType} {As st0 : List Value} {K1 : Option Value → hH → Prop} {fs : List Value} {q : vw_C} (hd : decode cc pc = .ok (.invokevirtual idx, 3)) (hm : MV y cy maxL rt k0) (hl : Cond.methodLink own idx y ∈ tb) (hA : AM g d1 c1 n1 y cy maxL rt (.ref b :: As) h K1) (hb : h b = some (.inr (ci, fs))) (hc : vwCl[ci]? = some q) (hq : q.1 = y.cls) (hk : As.length = k0) (hst : st0 = As.reverse ++ .ref b :: rest) (hcat : (rest.map fun v => v.category).sum ≤ 8) (hd1 : d1 + 1 ≤ d) (hc1 : c1 ≤ c) (hn1 : n1 ≤ n)
    (kk : ∀ v h', K1 v h' → AW g own cc nL ret nm d (c - c1) (n - n1) K (pc + 3) L (v.toList ++ rest) h') : AW g own cc nL ret nm d c n K pc L st0 h := by
  intro p e s m args below meth c' H locs cells slots mc ms R ls X hH hS hl'
  obtain ⟨x1, x2, x3, x4, x5, x6, x7, x8, x9, x10, x11, x12, x13, x14, x15, x16, x17, x18⟩ := X
  obtain ⟨m1, m2, m3, m4, m5, m6⟩ := hm
  obtain ⟨ws, hP, hD, hi⟩ := id hH
  obtain ⟨q0, hq0⟩ := HP.at hi hb
  have hG : GoodIn tb (wsV own idx y.cls y (.code y cy maxL rt :: tb)) := GoodIn.tb (fun w hw => by
    simp only [wsV, List.cons_append, List.nil_append, List.mem_cons] at hw
    rcases hw with rfl | rfl | rfl | rfl | rfl | hw <;> assumption)
  have cw := cwV (R := R) (bytes := cy) (maxL := maxL) (ret := rt) (rm := { frames := d1, cells := c1, slots := n1, locals := 64 * d1 }) (mc := c1) (ms := n1) k0 x8 hG rfl rfl rfl ⟨rfl, m5⟩ ⟨Nat.le_trans hd1 x17, by show 8 + (maxL + 11) + 64 * d1 ≤ R.locals; omega⟩
  have hrec := va_recv x10 hP hc hq0
  rw [hq] at hrec
  refine r_back (va_runV (As := As) (rest := rest) (b := b) ⟨x1, x2, x3, x7, x8⟩ hA cw ⟨Pk.blind, hrec, fun U hU hW => ⟨rfl, Pk.call x9 x10 x11 x12 hH hS hU hW⟩⟩ rfl hk hl'.1 hst (lv_room hcat) hd ⟨by omega, by omega⟩) hS (fun v h' H1 locs1 hv hH1 hS1 => ?_)
  exact kk v h' hv p e s m args below meth c' H1 locs1 (cells + c1) (slots + n1) mc ms R ls ⟨x1, x2, x3, x4, x5, x6, x7, x8, x9, x10, x11, x12, by omega, by omega, x15, x16, x17, x18⟩ hH1 hS1 hl'
theorem r_callS {y : MethodName} {cy : ByteArray} {maxL k0 idx d1 c1 n1 : Nat} {rt : Option FieldType} {As st0 : List Value} {K1 : Option Value → hH → Prop} (hd : decode cc pc = .ok (.invokestatic idx, 3)) (hm : MS y cy maxL rt k0) (hl : Cond.methodLink own idx y ∈ tb) (hA : AM g d1 c1 n1 y cy maxL rt As h K1) (hk : As.length = k0) (hst : st0 = As.reverse ++ rest) (hcat : (rest.map fun v => v.category).sum ≤ 8) (hd1 : d1 + 1 ≤ d) (hc1 : c1 ≤ c) (hn1 : n1 ≤ n)
    (kk : ∀ v h', K1 v h' → AW g own cc nL ret nm d (c - c1) (n - n1) K (pc + 3) L (v.toList ++ rest) h') : AW g own cc nL ret nm d c n K pc L st0 h := by
  intro p e s m args below meth c' H locs cells slots mc ms R ls X hH hS hl'
  obtain ⟨x1, x2, x3, x4, x5, x6, x7, x8, x9, x10, x11, x12, x13, x14, x15, x16, x17, x18⟩ := X
  obtain ⟨m1, m3, m4, m5, m6⟩ := hm
  have hG : GoodIn tb (va_wsS own idx y (.code y cy maxL rt :: tb)) := GoodIn.tb (fun w hw => by
    simp only [va_wsS, List.cons_append, List.nil_append, List.mem_cons] at hw
    rcases hw with rfl | rfl | rfl | rfl | hw <;> assumption)
  have cw := va_cwS (R := R) (bytes := cy) (maxL := maxL) (ret := rt) (rm := { frames := d1, cells := c1, slots := n1, locals := 64 * d1 }) (mc := c1) (ms := n1) k0 x8 hG rfl rfl rfl m5 ⟨Nat.le_trans hd1 x17, by show 8 + (maxL + 11) + 64 * d1 ≤ R.locals; omega⟩
  refine r_back (va_runS (As := As) (rest := rest) ⟨x1, x2, x3, x7, x8⟩ hA cw ⟨Pk.blind, fun U hU hW => ⟨rfl, Pk.call x9 x10 x11 x12 hH hS hU hW⟩⟩ rfl hk hl'.1 hst (lv_room hcat) hd ⟨by omega, by omega⟩) hS (fun v h' H1 locs1 hv hH1 hS1 => ?_)
  exact kk v h' hv p e s m args below meth c' H1 locs1 (cells + c1) (slots + n1) mc ms R ls ⟨x1, x2, x3, x4, x5, x6, x7, x8, x9, x10, x11, x12, by omega, by omega, x15, x16, x17, x18⟩ hH1 hS1 hl'
theorem r_callI {y : MethodName} {cy : ByteArray} {maxL k0 idx b d1 c1 n1 : Nat} {As st0 : List Value} {K1 : Option Value → hH → Prop} (hd : decode cc pc = .ok (.invokespecial idx, 3)) (hm : MI y cy maxL k0) (hl : Cond.methodLink own idx y ∈ tb) (hA : AM g d1 c1 n1 y cy maxL none (.ref b :: As) h K1) (hk : As.length = k0) (hst : st0 = As.reverse ++ .ref b :: rest) (hcat : (rest.map fun v => v.category).sum ≤ 8) (hd1 : d1 + 1 ≤ d) (hc1 : c1 ≤ c) (hn1 : n1 ≤ n)
    (kk : ∀ v h', K1 v h' → AW g own cc nL ret nm d (c - c1) (n - n1) K (pc + 3) L (v.toList ++ rest) h') : AW g own cc nL ret nm d c n K pc L st0 h := by
  intro p e s m args below meth c' H locs cells slots mc ms R ls X hH hS hl'
  obtain ⟨x1, x2, x3, x4, x5, x6, x7, x8, x9, x10, x11, x12, x13, x14, x15, x16, x17, x18⟩ := X
  obtain ⟨m0, m1, m3, m4, m5, m6⟩ := hm
  have hG : GoodIn tb (.code y cy maxL none :: tb) := GoodIn.tb (fun w hw => by
    simp only [List.mem_cons] at hw
    rcases hw with rfl | hw <;> assumption)
  have cb := callB_of (R := R) (own := own) (index := idx) (y := y) (bytes := cy) (maxL := maxL) (ret := none) (rm := { frames := d1, cells := c1, slots := n1, locals := 64 * d1 }) (mc := c1) (ms := n1) k0 x8 hG rfl rfl rfl (x8 _ m3) (x8 _ hl) m5 ⟨Nat.le_trans hd1 x17, by show 8 + (maxL + 11) + 64 * d1 ≤ R.locals; omega⟩
  refine r_back (va_runI (As := As) (rest := rest) (b := b) ⟨x1, x2, x3, x7, x8⟩ hA ⟨cb, m0, x8 _ m1⟩ ⟨Pk.blind, fun U hU hW => ⟨rfl, Pk.call x9 x10 x11 x12 hH hS hU hW⟩⟩ rfl hk hl'.1 hst (lv_room hcat) hd ⟨by omega, by omega⟩) hS (fun v h' H1 locs1 hv hH1 hS1 => ?_)
  exact kk v h' hv p e s m args below meth c' H1 locs1 (cells + c1) (slots + n1) mc ms R ls ⟨x1, x2, x3, x4, x5, x6, x7, x8, x9, x10, x11, x12, by omega, by omega, x15, x16, x17, x18⟩ hH1 hS1 hl'
theorem r_objI {idx b : Nat} (hd : decode cc pc = .ok (.invokespecial idx, 3)) (hl : Cond.methodLink own idx Lib.objectInit ∈ tb) (hi : Cond.instanceMethod Lib.objectInit ∈ tb) (hc : Cond.code Lib.objectInit ⟨#[0xb1]⟩ 1 none ∈ tb) (hcat : (rest.map fun v => v.category).sum ≤ 8) (hd1 : 1 ≤ d) (kk : AW g own cc nL ret nm d c n K (pc + 3) L rest h) : AW g own cc nL ret nm d c n K pc L (.ref b :: rest) h := by
  intro p e s m args below meth c' H locs cells slots mc ms R ls X hH hS hl'
  obtain ⟨x1, x2, x3, x4, x5, x6, x7, x8, x9, x10, x11, x12, x13, x14, x15, x16, x17, x18⟩ := id X
  exact W.objInit (g := F0 m pc ls (.ref b :: rest)) x1 x2 x7 (x8 _ hl) (x8 _ hi) (x8 _ hc) rfl (hl'.1.trans x3.symm) rfl hd (by omega) (by show 2 * 0 + _ + 12 ≤ _; omega) (kk p e s m args below meth c' H locs cells slots mc ms R ls X hH hS hl')
end R2
