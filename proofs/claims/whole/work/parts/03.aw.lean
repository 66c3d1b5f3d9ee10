/-- the launch, the classes' numbers, the array classes, the first new cell, what is only read -/
abbrev GC : Type := Launch × va_G × (Nat → ClassId) × Nat × (State → Prop)
abbrev gl (g : GC) : Launch := g.1
abbrev gD (g : GC) : va_G := g.2.1
abbrev gA (g : GC) : Nat → ClassId := g.2.2.1
abbrev gN (g : GC) : Nat := g.2.2.2.1
abbrev gR (g : GC) : State → Prop := g.2.2.2.2
abbrev tys (f : Nat → ClassId) : List (ClassId × FieldType) := [(f 0, .int), (f 1, .byte), (f 2, .boolean), (f 3, .object RX8), (f 4, .object RX1), (f 5, .object RX5), (f 6, .object RX7), (f 7, .object RX6)]
abbrev hE : Type := (Nat × vp_A) ⊕ (Nat × List Value)
abbrev hH : Type := Nat → Option hE
def tr (g : GC) (e : hE) : va_E := match e with
  | .inl a => .inl (gA g a.1, a.2)
  | .inr o => .inr o
def HP (g : GC) (h : hH) (H : Heap) : Prop := ∃ ws : va_W, va_P (gD g) vwCl ws H ∧ va_D (fun q => gN g ≤ q) ws ∧ ∀ q e, h q = some e → (q, tr g e) ∈ ws
def Rok (g : GC) : Prop := ∀ s U : State, s.WarmedH U.vm → (∀ q : Nat, q < gN g → U.heap[q]? = s.heap[q]?) → gR g s → gR g U
def Pk (g : GC) (h : hH) (U : State) : Prop := Rok g ∧ va_K (gD g) vwCl (tys (gA g)) U ∧ gR g U ∧ gN g ≤ U.heap.size ∧ HP g h U.heap
def Qk (g : GC) (K : Option Value → hH → Prop) : Array Value → State → Outcome → State → Prop := fun _ st oc t => (∃ v h', oc = .returned v ∧ K v h' ∧ HP g h' t.heap) ∧ va_F (fun q => gN g ≤ q) st t
def Sx (g : GC) (own : String) (cc : ByteArray) (nL : Nat) (ret : Option FieldType) (nm : String) (d c n : Nat) (p : Program) (s : State) (m : MethodId) (args : Array Value) (meth : Method) (c' : Code) (cells slots mc ms : Nat) (R : Room) : Prop :=
  p.tables.exec = Jvm.exec ∧ c'.code = cc ∧ c'.maxLocals = nL ∧ meth.sig.returnType = ret ∧ meth.locks = false ∧ meth.name = nm ∧ s.vm.findClass own = some m.cls ∧ (∀ w ∈ lw_tbl, w.before args s = true) ∧ Rok g ∧ va_K (gD g) vwCl (tys (gA g)) s ∧ gR g s ∧ gN g ≤ s.heap.size ∧ cells + c ≤ mc ∧ slots + n ≤ ms ∧ mc ≤ R.cells ∧ ms ≤ R.slots ∧ d ≤ R.frames ∧ 64 * d ≤ R.locals
def AW (g : GC) (own : String) (cc : ByteArray) (nL : Nat) (ret : Option FieldType) (nm : String) (d c n : Nat) (K : Option Value → hH → Prop) (pc : Nat) (L : List (Nat × Value)) (st : List Value) (h : hH) : Prop :=
  ∀ (p : Program) (e : Env) (s : State) (m : MethodId) (args : Array Value) (below : List Frame) (meth : Method) (c' : Code) (H : Heap) (locs : List Loc) (cells slots mc ms : Nat) (R : Room) (ls : Array Slot),
    Sx g own cc nL ret nm d c n p s m args meth c' cells slots mc ms R → HP g h H → va_S (fun q => gN g ≤ q) s.heap H locs → lv_has ls nL L →
    W p (gl g) e R s m args below meth c' H locs cells slots (MQ below (Qk g K) args s mc ms (fun q => gN g ≤ q)) (F0 m pc ls st)
def AM (g : GC) (d c n : Nat) (y : MethodName) (cc : ByteArray) (maxL : Nat) (ret : Option FieldType) (args : List Value) (h : hH) (K : Option Value → hH → Prop) : Prop :=
  Met (gl g) y (.code y cc maxL ret :: lw_tbl) ({ frames := d, cells := c, slots := n, locals := 64 * d }) (va_Pc args (Pk g h)) (Qk g K) c n (fun q => gN g ≤ q)
def lk : List (Nat × Value) → Nat → Option Value
  | [], _ => none
  | q :: t, i => if q.1 = i then some q.2 else lk t i
theorem lk_mem : ∀ {L : List (Nat × Value)} {i : Nat} {v : Value}, lk L i = some v → (i, v) ∈ L
  | [], _, _, h => by cases h
  | q :: t, i, v, h => by
    unfold lk at h
    split at h
    · next e => cases h; cases e; exact List.mem_cons_self
    · exact List.mem_cons_of_mem _ (lk_mem h)
theorem lk_at {ls : Array Slot} {nL : Nat} {L : List (Nat × Value)} (h : lv_has ls nL L) {i : Nat} {v : Value} (hk : lk L i = some v) : ls[i]? = some (.val v) := h.2.2 (i, v) (lk_mem hk)
def st1 (L : List (Nat × Value)) (i : Nat) (v : Value) : List (Nat × Value) := (i, v) :: L.filter (fun q => !(q.1 == i) && !(q.1 + 1 == i && q.2.category == 2))
def st2 (L : List (Nat × Value)) (i : Nat) (v : Value) : List (Nat × Value) := (i, v) :: L.filter (fun q => !(q.1 == i) && (!(q.1 == i + 1) && !(q.1 + 1 == i && q.2.category == 2)))
/-- one cell of the heap anew -/
def hu (h : hH) (a : Nat) (e : hE) : hH := fun q => if q = a then some e else h q
theorem hu_eq (h : hH) (a : Nat) (e : hE) : hu h a e a = some e := if_pos rfl
theorem hu_ne {h : hH} {a q : Nat} {e : hE} (n : q ≠ a) : hu h a e q = h q := if_neg n
theorem HP.at {g : GC} {h : hH} {ws : va_W} (hi : ∀ q e, h q = some e → (q, tr g e) ∈ ws) {a : Nat} {e : hE} (ha : h a = some e) : ∃ q0 : Nat, ws[q0]? = some (a, tr g e) := List.getElem?_of_mem (hi a e ha)
theorem HP.set {g : GC} {h : hH} {ws : va_W} {H : Heap} (hD : va_D (fun q => gN g ≤ q) ws) (hi : ∀ q e, h q = some e → (q, tr g e) ∈ ws) {a q0 : Nat} {e0 : va_E} {e1 : hE} (hq : ws[q0]? = some (a, e0)) (hP : va_P (gD g) vwCl (ws.set q0 (a, tr g e1)) H) (hD1 : va_D (fun q => gN g ≤ q) (ws.set q0 (a, tr g e1))) : HP g (hu h a e1) H := by
  refine ⟨_, hP, hD1, fun q e he => ?_⟩
  have hl := (List.getElem?_eq_some_iff.mp hq).1
  by_cases hqa : q = a
  · subst hqa
    rw [hu_eq] at he
    cases he
    exact List.mem_of_getElem? (List.getElem?_set_self hl)
  · rw [hu_ne hqa] at he
    obtain ⟨i, hI⟩ := List.getElem?_of_mem (hi q e he)
    have hne : q0 ≠ i := fun z => by subst z; rw [hq] at hI; cases hI; exact hqa rfl
    exact List.mem_of_getElem? ((List.getElem?_set_ne hne).trans hI)
theorem HP.push {g : GC} {h : hH} {ws : va_W} {H : Heap} (hi : ∀ q e, h q = some e → (q, tr g e) ∈ ws) {a : Nat} {e1 : hE} (hP : va_P (gD g) vwCl (ws ++ [(a, tr g e1)]) H) (hD1 : va_D (fun q => gN g ≤ q) (ws ++ [(a, tr g e1)])) : h a = none ∧ HP g (hu h a e1) H := by
  have hn : h a = none := by
    cases hx : h a with
    | none => rfl
    | some e =>
      obtain ⟨i, hI⟩ := List.getElem?_of_mem (hi a e hx)
      have hl := (List.getElem?_eq_some_iff.mp hI).1
      have h1 : (ws ++ [(a, tr g e1)])[i]? = some (a, tr g e) := by rw [List.getElem?_append_left hl]; exact hI
      have h2 : (ws ++ [(a, tr g e1)])[ws.length]? = some (a, tr g e1) := by simp
      have := hD1.1 i ws.length _ _ h1 h2 rfl
      omega
  refine ⟨hn, _, hP, hD1, fun q e he => ?_⟩
  by_cases hqa : q = a
  · subst hqa
    rw [hu_eq] at he
    cases he
    exact List.mem_append_right _ List.mem_cons_self
  · rw [hu_ne hqa] at he
    exact List.mem_append_left _ (hi q e he)
set_option maxRecDepth 100000 in
theorem tbl_all : lw_tbl.all goodWord = true := by decide +kernel
theorem tbl_good : GoodIn lw_tbl lw_tbl := fun w hw => ⟨hw, good_of_word (List.all_eq_true.mp tbl_all w hw)⟩

section R1
variable {g : GC} {own : String} {cc : ByteArray} {nL : Nat} {ret : Option FieldType} {nm : String} {d c n : Nat} {K : Option Value → hH → Prop} {pc : Nat} {L : List (Nat × Value)} {rest : List Value} {h : hH}
theorem r_iconst {z : Int} {v : Int32} (hd : decode cc pc = .ok (.iconst z, 1)) (hv : Int32.ofInt z = v) (k : AW g own cc nL ret nm d c n K (pc + 1) L (.int v :: rest) h) : AW g own cc nL ret nm d c n K pc L rest h :=
  fun p e s m args below meth c1 H locs cells slots mc ms R ls X hH hS hl => lv_iconst X.1 X.2.1 hd hv (k p e s m args below meth c1 H locs cells slots mc ms R ls X hH hS hl)
theorem r_bipush {z : Int} {v : Int32} (hd : decode cc pc = .ok (.bipush z, 2)) (hv : (Int8.ofInt z).toInt32 = v) (k : AW g own cc nL ret nm d c n K (pc + 2) L (.int v :: rest) h) : AW g own cc nL ret nm d c n K pc L rest h :=
  fun p e s m args below meth c1 H locs cells slots mc ms R ls X hH hS hl => lv_bipush X.1 X.2.1 hd hv (k p e s m args below meth c1 H locs cells slots mc ms R ls X hH hS hl)
theorem r_sipush {z : Int} {v : Int32} (hd : decode cc pc = .ok (.sipush z, 3)) (hv : (Int16.ofInt z).toInt32 = v) (k : AW g own cc nL ret nm d c n K (pc + 3) L (.int v :: rest) h) : AW g own cc nL ret nm d c n K pc L rest h :=
  fun p e s m args below meth c1 H locs cells slots mc ms R ls X hH hS hl => lv_sipush X.1 X.2.1 hd hv (k p e s m args below meth c1 H locs cells slots mc ms R ls X hH hS hl)
theorem r_lconst {z : Fin 2} {v : Int64} (hd : decode cc pc = .ok (.lconst z, 1)) (hv : Int64.ofNat (z : Nat) = v) (k : AW g own cc nL ret nm d c n K (pc + 1) L (.long v :: rest) h) : AW g own cc nL ret nm d c n K pc L rest h :=
  fun p e s m args below meth c1 H locs cells slots mc ms R ls X hH hS hl => lv_lconst X.1 X.2.1 hd hv (k p e s m args below meth c1 H locs cells slots mc ms R ls X hH hS hl)
theorem r_null  (hd : decode cc pc = .ok (.aconst_null, 1)) (k : AW g own cc nL ret nm d c n K (pc + 1) L (.null :: rest) h) : AW g own cc nL ret nm d c n K pc L rest h :=
  fun p e s m args below meth c1 H locs cells slots mc ms R ls X hH hS hl => lv_null X.1 X.2.1 hd  (k p e s m args below meth c1 H locs cells slots mc ms R ls X hH hS hl)
theorem r_iload_n {k0 : Fin 4} {x : Int32} (hd : decode cc pc = .ok (.iload_n k0, 1)) (hx : lk L (k0 : Nat) = some (.int x)) (k : AW g own cc nL ret nm d c n K (pc + 1) L (.int x :: rest) h) : AW g own cc nL ret nm d c n K pc L rest h :=
  fun p e s m args below meth c1 H locs cells slots mc ms R ls X hH hS hl => lv_iload_n X.1 X.2.1 hd rfl (lk_at hl hx) (k p e s m args below meth c1 H locs cells slots mc ms R ls X hH hS hl)
theorem r_iload {i : Nat} {x : Int32} (hd : decode cc pc = .ok (.iload i, 2)) (hx : lk L i = some (.int x)) (k : AW g own cc nL ret nm d c n K (pc + 2) L (.int x :: rest) h) : AW g own cc nL ret nm d c n K pc L rest h :=
  fun p e s m args below meth c1 H locs cells slots mc ms R ls X hH hS hl => lv_iload X.1 X.2.1 hd (lk_at hl hx) (k p e s m args below meth c1 H locs cells slots mc ms R ls X hH hS hl)
theorem r_lload_n {k0 : Fin 4} {x : Int64} (hd : decode cc pc = .ok (.lload_n k0, 1)) (hx : lk L (k0 : Nat) = some (.long x)) (k : AW g own cc nL ret nm d c n K (pc + 1) L (.long x :: rest) h) : AW g own cc nL ret nm d c n K pc L rest h :=
  fun p e s m args below meth c1 H locs cells slots mc ms R ls X hH hS hl => lv_lload_n X.1 X.2.1 hd rfl (lk_at hl hx) (k p e s m args below meth c1 H locs cells slots mc ms R ls X hH hS hl)
theorem r_lload {i : Nat} {x : Int64} (hd : decode cc pc = .ok (.lload i, 2)) (hx : lk L i = some (.long x)) (k : AW g own cc nL ret nm d c n K (pc + 2) L (.long x :: rest) h) : AW g own cc nL ret nm d c n K pc L rest h :=
  fun p e s m args below meth c1 H locs cells slots mc ms R ls X hH hS hl => lv_lload X.1 X.2.1 hd (lk_at hl hx) (k p e s m args below meth c1 H locs cells slots mc ms R ls X hH hS hl)
theorem r_aload_n {k0 : Fin 4} {x : Nat} (hd : decode cc pc = .ok (.aload_n k0, 1)) (hx : lk L (k0 : Nat) = some (.ref x)) (k : AW g own cc nL ret nm d c n K (pc + 1) L (.ref x :: rest) h) : AW g own cc nL ret nm d c n K pc L rest h :=
  fun p e s m args below meth c1 H locs cells slots mc ms R ls X hH hS hl => lv_aload_n X.1 X.2.1 hd rfl (lk_at hl hx) (k p e s m args below meth c1 H locs cells slots mc ms R ls X hH hS hl)
theorem r_aload {i : Nat} {x : Nat} (hd : decode cc pc = .ok (.aload i, 2)) (hx : lk L i = some (.ref x)) (k : AW g own cc nL ret nm d c n K (pc + 2) L (.ref x :: rest) h) : AW g own cc nL ret nm d c n K pc L rest h :=
  fun p e s m args below meth c1 H locs cells slots mc ms R ls X hH hS hl => lv_aload X.1 X.2.1 hd (lk_at hl hx) (k p e s m args below meth c1 H locs cells slots mc ms R ls X hH hS hl)
theorem r_aload_nN {k0 : Fin 4} (hd : decode cc pc = .ok (.aload_n k0, 1)) (hx : lk L (k0 : Nat) = some .null) (k : AW g own cc nL ret nm d c n K (pc + 1) L (.null :: rest) h) : AW g own cc nL ret nm d c n K pc L rest h :=
  fun p e s m args below meth c1 H locs cells slots mc ms R ls X hH hS hl => lv_aload_nN X.1 X.2.1 hd rfl (lk_at hl hx) (k p e s m args below meth c1 H locs cells slots mc ms R ls X hH hS hl)
theorem r_aloadN {i : Nat} (hd : decode cc pc = .ok (.aload i, 2)) (hx : lk L i = some .null) (k : AW g own cc nL ret nm d c n K (pc + 2) L (.null :: rest) h) : AW g own cc nL ret nm d c n K pc L rest h :=
  fun p e s m args below meth c1 H locs cells slots mc ms R ls X hH hS hl => lv_aloadN X.1 X.2.1 hd (lk_at hl hx) (k p e s m args below meth c1 H locs cells slots mc ms R ls X hH hS hl)
theorem r_istore_n {k0 : Fin 4} {x : Int32} (hd : decode cc pc = .ok (.istore_n k0, 1)) (hn : (k0 : Nat) < nL) (k : AW g own cc nL ret nm d c n K (pc + 1) (st1 L (k0 : Nat) (.int x)) rest h) : AW g own cc nL ret nm d c n K pc L ((.int x) :: rest) h :=
  fun p e s m args below meth c1 H locs cells slots mc ms R ls X hH hS hl => lv_istore_n X.1 X.2.1 hd rfl hl hn rfl (fun ls hl => k p e s m args below meth c1 H locs cells slots mc ms R ls X hH hS hl)
theorem r_istore {i : Nat} {x : Int32} (hd : decode cc pc = .ok (.istore i, 2)) (hn : i < nL) (k : AW g own cc nL ret nm d c n K (pc + 2) (st1 L i (.int x)) rest h) : AW g own cc nL ret nm d c n K pc L ((.int x) :: rest) h :=
  fun p e s m args below meth c1 H locs cells slots mc ms R ls X hH hS hl => lv_istore X.1 X.2.1 hd hl hn rfl (fun ls hl => k p e s m args below meth c1 H locs cells slots mc ms R ls X hH hS hl)
theorem r_lstore_n {k0 : Fin 4} {x : Int64} (hd : decode cc pc = .ok (.lstore_n k0, 1)) (hn : (k0 : Nat) + 1 < nL) (k : AW g own cc nL ret nm d c n K (pc + 1) (st2 L (k0 : Nat) (.long x)) rest h) : AW g own cc nL ret nm d c n K pc L ((.long x) :: rest) h :=
  fun p e s m args below meth c1 H locs cells slots mc ms R ls X hH hS hl => lv_lstore_n X.1 X.2.1 hd rfl hl hn rfl (fun ls hl => k p e s m args below meth c1 H locs cells slots mc ms R ls X hH hS hl)
theorem r_lstore {i : Nat} {x : Int64} (hd : decode cc pc = .ok (.lstore i, 2)) (hn : i + 1 < nL) (k : AW g own cc nL ret nm d c n K (pc + 2) (st2 L i (.long x)) rest h) : AW g own cc nL ret nm d c n K pc L ((.long x) :: rest) h :=
  fun p e s m args below meth c1 H locs cells slots mc ms R ls X hH hS hl => lv_lstore X.1 X.2.1 hd hl hn rfl (fun ls hl => k p e s m args below meth c1 H locs cells slots mc ms R ls X hH hS hl)
theorem r_astore_n {k0 : Fin 4} {x : Nat} (hd : decode cc pc = .ok (.astore_n k0, 1)) (hn : (k0 : Nat) < nL) (k : AW g own cc nL ret nm d c n K (pc + 1) (st1 L (k0 : Nat) (.ref x)) rest h) : AW g own cc nL ret nm d c n K pc L ((.ref x) :: rest) h :=
  fun p e s m args below meth c1 H locs cells slots mc ms R ls X hH hS hl => lv_astore_n X.1 X.2.1 hd rfl hl hn rfl (fun ls hl => k p e s m args below meth c1 H locs cells slots mc ms R ls X hH hS hl)
theorem r_astore {i : Nat} {x : Nat} (hd : decode cc pc = .ok (.astore i, 2)) (hn : i < nL) (k : AW g own cc nL ret nm d c n K (pc + 2) (st1 L i (.ref x)) rest h) : AW g own cc nL ret nm d c n K pc L ((.ref x) :: rest) h :=
  fun p e s m args below meth c1 H locs cells slots mc ms R ls X hH hS hl => lv_astore X.1 X.2.1 hd hl hn rfl (fun ls hl => k p e s m args below meth c1 H locs cells slots mc ms R ls X hH hS hl)
theorem r_astore_nN {k0 : Fin 4} (hd : decode cc pc = .ok (.astore_n k0, 1)) (hn : (k0 : Nat) < nL) (k : AW g own cc nL ret nm d c n K (pc + 1) (st1 L (k0 : Nat) .null) rest h) : AW g own cc nL ret nm d c n K pc L (.null :: rest) h :=
  fun p e s m args below meth c1 H locs cells slots mc ms R ls X hH hS hl => lv_astore_nN X.1 X.2.1 hd rfl hl hn rfl (fun ls hl => k p e s m args below meth c1 H locs cells slots mc ms R ls X hH hS hl)
theorem r_astoreN {i : Nat} (hd : decode cc pc = .ok (.astore i, 2)) (hn : i < nL) (k : AW g own cc nL ret nm d c n K (pc + 2) (st1 L i .null) rest h) : AW g own cc nL ret nm d c n K pc L (.null :: rest) h :=
  fun p e s m args below meth c1 H locs cells slots mc ms R ls X hH hS hl => lv_astoreN X.1 X.2.1 hd hl hn rfl (fun ls hl => k p e s m args below meth c1 H locs cells slots mc ms R ls X hH hS hl)
theorem r_iinc {i : Nat} {z : Int} {x v : Int32} (hd : decode cc pc = .ok (.iinc i z, 3)) (hx : lk L i = some (.int x)) (hv : x + Int32.ofInt z = v) (hn : i < nL) (k : AW g own cc nL ret nm d c n K (pc + 3) (st1 L i (.int v)) rest h) : AW g own cc nL ret nm d c n K pc L rest h := by
  intro p e s m args below meth c1 H locs cells slots mc ms R ls X hH hS hl
  obtain ⟨k0, hk0⟩ := List.getElem?_of_mem (lk_mem hx)
  exact lv_iinc (k := k0) X.1 X.2.1 hd hl hk0 hv hn rfl (fun ls hl => k p e s m args below meth c1 H locs cells slots mc ms R ls X hH hS hl)
theorem r_iadd {x y : Int32} (hd : decode cc pc = .ok (.iadd, 1)) (k : AW g own cc nL ret nm d c n K (pc + 1) L (.int (x + y) :: rest) h) : AW g own cc nL ret nm d c n K pc L (.int y :: .int x :: rest) h :=
  fun p e s m args below meth c1 H locs cells slots mc ms R ls X hH hS hl => lv_iadd X.1 X.2.1 hd  (k p e s m args below meth c1 H locs cells slots mc ms R ls X hH hS hl)
theorem r_isub {x y : Int32} (hd : decode cc pc = .ok (.isub, 1)) (k : AW g own cc nL ret nm d c n K (pc + 1) L (.int (x - y) :: rest) h) : AW g own cc nL ret nm d c n K pc L (.int y :: .int x :: rest) h :=
  fun p e s m args below meth c1 H locs cells slots mc ms R ls X hH hS hl => lv_isub X.1 X.2.1 hd  (k p e s m args below meth c1 H locs cells slots mc ms R ls X hH hS hl)
theorem r_imul {x y : Int32} (hd : decode cc pc = .ok (.imul, 1)) (k : AW g own cc nL ret nm d c n K (pc + 1) L (.int (x * y) :: rest) h) : AW g own cc nL ret nm d c n K pc L (.int y :: .int x :: rest) h :=
  fun p e s m args below meth c1 H locs cells slots mc ms R ls X hH hS hl => lv_imul X.1 X.2.1 hd  (k p e s m args below meth c1 H locs cells slots mc ms R ls X hH hS hl)
theorem r_iand {x y : Int32} (hd : decode cc pc = .ok (.iand, 1)) (k : AW g own cc nL ret nm d c n K (pc + 1) L (.int (x &&& y) :: rest) h) : AW g own cc nL ret nm d c n K pc L (.int y :: .int x :: rest) h :=
  fun p e s m args below meth c1 H locs cells slots mc ms R ls X hH hS hl => lv_iand X.1 X.2.1 hd  (k p e s m args below meth c1 H locs cells slots mc ms R ls X hH hS hl)
theorem r_ior {x y : Int32} (hd : decode cc pc = .ok (.ior, 1)) (k : AW g own cc nL ret nm d c n K (pc + 1) L (.int (x ||| y) :: rest) h) : AW g own cc nL ret nm d c n K pc L (.int y :: .int x :: rest) h :=
  fun p e s m args below meth c1 H locs cells slots mc ms R ls X hH hS hl => lv_ior X.1 X.2.1 hd  (k p e s m args below meth c1 H locs cells slots mc ms R ls X hH hS hl)
theorem r_ixor {x y : Int32} (hd : decode cc pc = .ok (.ixor, 1)) (k : AW g own cc nL ret nm d c n K (pc + 1) L (.int (x ^^^ y) :: rest) h) : AW g own cc nL ret nm d c n K pc L (.int y :: .int x :: rest) h :=
  fun p e s m args below meth c1 H locs cells slots mc ms R ls X hH hS hl => lv_ixor X.1 X.2.1 hd  (k p e s m args below meth c1 H locs cells slots mc ms R ls X hH hS hl)
theorem r_ladd {x y : Int64} (hd : decode cc pc = .ok (.ladd, 1)) (k : AW g own cc nL ret nm d c n K (pc + 1) L (.long (x + y) :: rest) h) : AW g own cc nL ret nm d c n K pc L (.long y :: .long x :: rest) h :=
  fun p e s m args below meth c1 H locs cells slots mc ms R ls X hH hS hl => lv_ladd X.1 X.2.1 hd  (k p e s m args below meth c1 H locs cells slots mc ms R ls X hH hS hl)
theorem r_lsub {x y : Int64} (hd : decode cc pc = .ok (.lsub, 1)) (k : AW g own cc nL ret nm d c n K (pc + 1) L (.long (x - y) :: rest) h) : AW g own cc nL ret nm d c n K pc L (.long y :: .long x :: rest) h :=
  fun p e s m args below meth c1 H locs cells slots mc ms R ls X hH hS hl => lv_lsub X.1 X.2.1 hd  (k p e s m args below meth c1 H locs cells slots mc ms R ls X hH hS hl)
theorem r_lmul {x y : Int64} (hd : decode cc pc = .ok (.lmul, 1)) (k : AW g own cc nL ret nm d c n K (pc + 1) L (.long (x * y) :: rest) h) : AW g own cc nL ret nm d c n K pc L (.long y :: .long x :: rest) h :=
  fun p e s m args below meth c1 H locs cells slots mc ms R ls X hH hS hl => lv_lmul X.1 X.2.1 hd  (k p e s m args below meth c1 H locs cells slots mc ms R ls X hH hS hl)
theorem r_land {x y : Int64} (hd : decode cc pc = .ok (.land, 1)) (k : AW g own cc nL ret nm d c n K (pc + 1) L (.long (x &&& y) :: rest) h) : AW g own cc nL ret nm d c n K pc L (.long y :: .long x :: rest) h :=
  fun p e s m args below meth c1 H locs cells slots mc ms R ls X hH hS hl => lv_land X.1 X.2.1 hd  (k p e s m args below meth c1 H locs cells slots mc ms R ls X hH hS hl)
theorem r_lor {x y : Int64} (hd : decode cc pc = .ok (.lor, 1)) (k : AW g own cc nL ret nm d c n K (pc + 1) L (.long (x ||| y) :: rest) h) : AW g own cc nL ret nm d c n K pc L (.long y :: .long x :: rest) h :=
  fun p e s m args below meth c1 H locs cells slots mc ms R ls X hH hS hl => lv_lor X.1 X.2.1 hd  (k p e s m args below meth c1 H locs cells slots mc ms R ls X hH hS hl)
theorem r_ishl {x y : Int32} (hd : decode cc pc = .ok (.ishl, 1)) (k : AW g own cc nL ret nm d c n K (pc + 1) L (.int (x <<< (y &&& 31)) :: rest) h) : AW g own cc nL ret nm d c n K pc L (.int y :: .int x :: rest) h :=
  fun p e s m args below meth c1 H locs cells slots mc ms R ls X hH hS hl => lv_ishl X.1 X.2.1 hd  (k p e s m args below meth c1 H locs cells slots mc ms R ls X hH hS hl)
theorem r_ishr {x y : Int32} (hd : decode cc pc = .ok (.ishr, 1)) (k : AW g own cc nL ret nm d c n K (pc + 1) L (.int (x >>> (y &&& 31)) :: rest) h) : AW g own cc nL ret nm d c n K pc L (.int y :: .int x :: rest) h :=
  fun p e s m args below meth c1 H locs cells slots mc ms R ls X hH hS hl => lv_ishr X.1 X.2.1 hd  (k p e s m args below meth c1 H locs cells slots mc ms R ls X hH hS hl)
theorem r_iushr {x y : Int32} (hd : decode cc pc = .ok (.iushr, 1)) (k : AW g own cc nL ret nm d c n K (pc + 1) L (.int ((x.toUInt32 >>> (y.toUInt32 &&& Int32.toUInt32 31)).toInt32) :: rest) h) : AW g own cc nL ret nm d c n K pc L (.int y :: .int x :: rest) h :=
  fun p e s m args below meth c1 H locs cells slots mc ms R ls X hH hS hl => lv_iushr X.1 X.2.1 hd rfl (k p e s m args below meth c1 H locs cells slots mc ms R ls X hH hS hl)
theorem r_lushr {x : Int64} {y : Int32} (hd : decode cc pc = .ok (.lushr, 1)) (k : AW g own cc nL ret nm d c n K (pc + 1) L (.long ((x.toUInt64 >>> (y.toInt64.toUInt64 &&& Int64.toUInt64 63)).toInt64) :: rest) h) : AW g own cc nL ret nm d c n K pc L (.int y :: .long x :: rest) h :=
  fun p e s m args below meth c1 H locs cells slots mc ms R ls X hH hS hl => lv_lushr X.1 X.2.1 hd rfl (k p e s m args below meth c1 H locs cells slots mc ms R ls X hH hS hl)
theorem r_lshl {x : Int64} {y : Int32} (hd : decode cc pc = .ok (.lshl, 1)) (k : AW g own cc nL ret nm d c n K (pc + 1) L (.long (x <<< (y.toInt64 &&& 63)) :: rest) h) : AW g own cc nL ret nm d c n K pc L (.int y :: .long x :: rest) h :=
  fun p e s m args below meth c1 H locs cells slots mc ms R ls X hH hS hl => lv_lshl X.1 X.2.1 hd rfl (k p e s m args below meth c1 H locs cells slots mc ms R ls X hH hS hl)
theorem r_lshr {x : Int64} {y : Int32} (hd : decode cc pc = .ok (.lshr, 1)) (k : AW g own cc nL ret nm d c n K (pc + 1) L (.long (x >>> (y.toInt64 &&& 63)) :: rest) h) : AW g own cc nL ret nm d c n K pc L (.int y :: .long x :: rest) h :=
  fun p e s m args below meth c1 H locs cells slots mc ms R ls X hH hS hl => lv_lshr X.1 X.2.1 hd rfl (k p e s m args below meth c1 H locs cells slots mc ms R ls X hH hS hl)
theorem r_idiv {x y : Int32} (hd : decode cc pc = .ok (.idiv, 1)) (hy : ¬ y = 0) (k : AW g own cc nL ret nm d c n K (pc + 1) L (.int (x / y) :: rest) h) : AW g own cc nL ret nm d c n K pc L (.int y :: .int x :: rest) h :=
  fun p e s m args below meth c1 H locs cells slots mc ms R ls X hH hS hl => lv_idiv X.1 X.2.1 hd hy (k p e s m args below meth c1 H locs cells slots mc ms R ls X hH hS hl)
theorem r_irem {x y : Int32} (hd : decode cc pc = .ok (.irem, 1)) (hy : ¬ y = 0) (k : AW g own cc nL ret nm d c n K (pc + 1) L (.int (x - x / y * y) :: rest) h) : AW g own cc nL ret nm d c n K pc L (.int y :: .int x :: rest) h :=
  fun p e s m args below meth c1 H locs cells slots mc ms R ls X hH hS hl => lv_irem X.1 X.2.1 hd hy (k p e s m args below meth c1 H locs cells slots mc ms R ls X hH hS hl)
theorem r_ldiv {x y : Int64} (hd : decode cc pc = .ok (.ldiv, 1)) (hy : ¬ y = 0) (k : AW g own cc nL ret nm d c n K (pc + 1) L (.long (x / y) :: rest) h) : AW g own cc nL ret nm d c n K pc L (.long y :: .long x :: rest) h :=
  fun p e s m args below meth c1 H locs cells slots mc ms R ls X hH hS hl => lv_ldiv X.1 X.2.1 hd hy (k p e s m args below meth c1 H locs cells slots mc ms R ls X hH hS hl)
theorem r_lrem {x y : Int64} (hd : decode cc pc = .ok (.lrem, 1)) (hy : ¬ y = 0) (k : AW g own cc nL ret nm d c n K (pc + 1) L (.long (x - x / y * y) :: rest) h) : AW g own cc nL ret nm d c n K pc L (.long y :: .long x :: rest) h :=
  fun p e s m args below meth c1 H locs cells slots mc ms R ls X hH hS hl => lv_lrem X.1 X.2.1 hd hy (k p e s m args below meth c1 H locs cells slots mc ms R ls X hH hS hl)
theorem r_ineg {x : Int32} (hd : decode cc pc = .ok (.ineg, 1)) (k : AW g own cc nL ret nm d c n K (pc + 1) L (.int (-x) :: rest) h) : AW g own cc nL ret nm d c n K pc L (.int x :: rest) h :=
  fun p e s m args below meth c1 H locs cells slots mc ms R ls X hH hS hl => lv_ineg X.1 X.2.1 hd  (k p e s m args below meth c1 H locs cells slots mc ms R ls X hH hS hl)
theorem r_lneg {x : Int64} (hd : decode cc pc = .ok (.lneg, 1)) (k : AW g own cc nL ret nm d c n K (pc + 1) L (.long (-x) :: rest) h) : AW g own cc nL ret nm d c n K pc L (.long x :: rest) h :=
  fun p e s m args below meth c1 H locs cells slots mc ms R ls X hH hS hl => lv_lneg X.1 X.2.1 hd  (k p e s m args below meth c1 H locs cells slots mc ms R ls X hH hS hl)
theorem r_i2l {x : Int32} (hd : decode cc pc = .ok (.i2l, 1)) (k : AW g own cc nL ret nm d c n K (pc + 1) L (.long x.toInt64 :: rest) h) : AW g own cc nL ret nm d c n K pc L (.int x :: rest) h :=
  fun p e s m args below meth c1 H locs cells slots mc ms R ls X hH hS hl => lv_i2l X.1 X.2.1 hd rfl (k p e s m args below meth c1 H locs cells slots mc ms R ls X hH hS hl)
theorem r_l2i {x : Int64} (hd : decode cc pc = .ok (.l2i, 1)) (k : AW g own cc nL ret nm d c n K (pc + 1) L (.int x.toInt32 :: rest) h) : AW g own cc nL ret nm d c n K pc L (.long x :: rest) h :=
  fun p e s m args below meth c1 H locs cells slots mc ms R ls X hH hS hl => lv_l2i X.1 X.2.1 hd rfl (k p e s m args below meth c1 H locs cells slots mc ms R ls X hH hS hl)
theorem r_i2b {x : Int32} (hd : decode cc pc = .ok (.i2b, 1)) (k : AW g own cc nL ret nm d c n K (pc + 1) L (.int x.toInt8.toInt32 :: rest) h) : AW g own cc nL ret nm d c n K pc L (.int x :: rest) h :=
  fun p e s m args below meth c1 H locs cells slots mc ms R ls X hH hS hl => lv_i2b X.1 X.2.1 hd rfl (k p e s m args below meth c1 H locs cells slots mc ms R ls X hH hS hl)
theorem r_i2s {x : Int32} (hd : decode cc pc = .ok (.i2s, 1)) (k : AW g own cc nL ret nm d c n K (pc + 1) L (.int x.toInt16.toInt32 :: rest) h) : AW g own cc nL ret nm d c n K pc L (.int x :: rest) h :=
  fun p e s m args below meth c1 H locs cells slots mc ms R ls X hH hS hl => lv_i2s X.1 X.2.1 hd rfl (k p e s m args below meth c1 H locs cells slots mc ms R ls X hH hS hl)
theorem r_i2c {x : Int32} (hd : decode cc pc = .ok (.i2c, 1)) (k : AW g own cc nL ret nm d c n K (pc + 1) L (.int (x.toUInt32 % 65536).toInt32 :: rest) h) : AW g own cc nL ret nm d c n K pc L (.int x :: rest) h :=
  fun p e s m args below meth c1 H locs cells slots mc ms R ls X hH hS hl => lv_i2c X.1 X.2.1 hd rfl (k p e s m args below meth c1 H locs cells slots mc ms R ls X hH hS hl)
theorem r_lcmp {x y : Int64} (hd : decode cc pc = .ok (.lcmp, 1)) (k : AW g own cc nL ret nm d c n K (pc + 1) L (.int (lg_cmp x y) :: rest) h) : AW g own cc nL ret nm d c n K pc L (.long y :: .long x :: rest) h :=
  fun p e s m args below meth c1 H locs cells slots mc ms R ls X hH hS hl => W.lcmp X.1 X.2.1 hd  (k p e s m args below meth c1 H locs cells slots mc ms R ls X hH hS hl)
theorem r_dup {v : Value} (hd : decode cc pc = .ok (.dup, 1)) (hv : v.category = 1) (k : AW g own cc nL ret nm d c n K (pc + 1) L (v :: v :: rest) h) : AW g own cc nL ret nm d c n K pc L (v :: rest) h :=
  fun p e s m args below meth c1 H locs cells slots mc ms R ls X hH hS hl => lv_dup X.1 X.2.1 hd hv (k p e s m args below meth c1 H locs cells slots mc ms R ls X hH hS hl)
theorem r_dup2 {v u : Value} (hd : decode cc pc = .ok (.dup2, 1)) (hv : v.category = 1) (hu : u.category = 1) (k : AW g own cc nL ret nm d c n K (pc + 1) L (v :: u :: v :: u :: rest) h) : AW g own cc nL ret nm d c n K pc L (v :: u :: rest) h :=
  fun p e s m args below meth c1 H locs cells slots mc ms R ls X hH hS hl => lv_dup2_11 X.1 X.2.1 hd hv hu (k p e s m args below meth c1 H locs cells slots mc ms R ls X hH hS hl)
theorem r_pop {v : Value} (hd : decode cc pc = .ok (.pop, 1)) (hv : v.category = 1) (k : AW g own cc nL ret nm d c n K (pc + 1) L rest h) : AW g own cc nL ret nm d c n K pc L (v :: rest) h :=
  fun p e s m args below meth c1 H locs cells slots mc ms R ls X hH hS hl => lv_pop X.1 X.2.1 hd hv (k p e s m args below meth c1 H locs cells slots mc ms R ls X hH hS hl)
theorem r_if_eq {x : Int32} {off : Int} {tgt : Nat} (hd : decode cc pc = .ok (.ifCond .eq off, 3)) (ht : (pc : Int) + off = (tgt : Int)) (k1 : (x = 0) → AW g own cc nL ret nm d c n K tgt L rest h) (k2 : ¬ (x = 0) → AW g own cc nL ret nm d c n K (pc + 3) L rest h) : AW g own cc nL ret nm d c n K pc L (.int x :: rest) h :=
  fun p e s m args below meth c1 H locs cells slots mc ms R ls X hH hS hl => lv_if_eq X.1 X.2.1 hd ht (fun q => k1 q p e s m args below meth c1 H locs cells slots mc ms R ls X hH hS hl) (fun q => k2 q p e s m args below meth c1 H locs cells slots mc ms R ls X hH hS hl)
theorem r_icmp_eq {x y : Int32} {off : Int} {tgt : Nat} (hd : decode cc pc = .ok (.if_icmp .eq off, 3)) (ht : (pc : Int) + off = (tgt : Int)) (k1 : (x = y) → AW g own cc nL ret nm d c n K tgt L rest h) (k2 : ¬ (x = y) → AW g own cc nL ret nm d c n K (pc + 3) L rest h) : AW g own cc nL ret nm d c n K pc L (.int y :: .int x :: rest) h :=
  fun p e s m args below meth c1 H locs cells slots mc ms R ls X hH hS hl => lv_icmp_eq X.1 X.2.1 hd ht (fun q => k1 q p e s m args below meth c1 H locs cells slots mc ms R ls X hH hS hl) (fun q => k2 q p e s m args below meth c1 H locs cells slots mc ms R ls X hH hS hl)
theorem r_if_ne {x : Int32} {off : Int} {tgt : Nat} (hd : decode cc pc = .ok (.ifCond .ne off, 3)) (ht : (pc : Int) + off = (tgt : Int)) (k1 : (¬ x = 0) → AW g own cc nL ret nm d c n K tgt L rest h) (k2 : ¬ (¬ x = 0) → AW g own cc nL ret nm d c n K (pc + 3) L rest h) : AW g own cc nL ret nm d c n K pc L (.int x :: rest) h :=
  fun p e s m args below meth c1 H locs cells slots mc ms R ls X hH hS hl => lv_if_ne X.1 X.2.1 hd ht (fun q => k1 q p e s m args below meth c1 H locs cells slots mc ms R ls X hH hS hl) (fun q => k2 q p e s m args below meth c1 H locs cells slots mc ms R ls X hH hS hl)
theorem r_icmp_ne {x y : Int32} {off : Int} {tgt : Nat} (hd : decode cc pc = .ok (.if_icmp .ne off, 3)) (ht : (pc : Int) + off = (tgt : Int)) (k1 : (¬ x = y) → AW g own cc nL ret nm d c n K tgt L rest h) (k2 : ¬ (¬ x = y) → AW g own cc nL ret nm d c n K (pc + 3) L rest h) : AW g own cc nL ret nm d c n K pc L (.int y :: .int x :: rest) h :=
  fun p e s m args below meth c1 H locs cells slots mc ms R ls X hH hS hl => lv_icmp_ne X.1 X.2.1 hd ht (fun q => k1 q p e s m args below meth c1 H locs cells slots mc ms R ls X hH hS hl) (fun q => k2 q p e s m args below meth c1 H locs cells slots mc ms R ls X hH hS hl)
theorem r_if_lt {x : Int32} {off : Int} {tgt : Nat} (hd : decode cc pc = .ok (.ifCond .lt off, 3)) (ht : (pc : Int) + off = (tgt : Int)) (k1 : (x < 0) → AW g own cc nL ret nm d c n K tgt L rest h) (k2 : ¬ (x < 0) → AW g own cc nL ret nm d c n K (pc + 3) L rest h) : AW g own cc nL ret nm d c n K pc L (.int x :: rest) h :=
  fun p e s m args below meth c1 H locs cells slots mc ms R ls X hH hS hl => lv_if_lt X.1 X.2.1 hd ht (fun q => k1 q p e s m args below meth c1 H locs cells slots mc ms R ls X hH hS hl) (fun q => k2 q p e s m args below meth c1 H locs cells slots mc ms R ls X hH hS hl)
theorem r_icmp_lt {x y : Int32} {off : Int} {tgt : Nat} (hd : decode cc pc = .ok (.if_icmp .lt off, 3)) (ht : (pc : Int) + off = (tgt : Int)) (k1 : (x < y) → AW g own cc nL ret nm d c n K tgt L rest h) (k2 : ¬ (x < y) → AW g own cc nL ret nm d c n K (pc + 3) L rest h) : AW g own cc nL ret nm d c n K pc L (.int y :: .int x :: rest) h :=
  fun p e s m args below meth c1 H locs cells slots mc ms R ls X hH hS hl => lv_icmp_lt X.1 X.2.1 hd ht (fun q => k1 q p e s m args below meth c1 H locs cells slots mc ms R ls X hH hS hl) (fun q => k2 q p e s m args below meth c1 H locs cells slots mc ms R ls X hH hS hl)
theorem r_if_ge {x : Int32} {off : Int} {tgt : Nat} (hd : decode cc pc = .ok (.ifCond .ge off, 3)) (ht : (pc : Int) + off = (tgt : Int)) (k1 : (0 ≤ x) → AW g own cc nL ret nm d c n K tgt L rest h) (k2 : ¬ (0 ≤ x) → AW g own cc nL ret nm d c n K (pc + 3) L rest h) : AW g own cc nL ret nm d c n K pc L (.int x :: rest) h :=
  fun p e s m args below meth c1 H locs cells slots mc ms R ls X hH hS hl => lv_if_ge X.1 X.2.1 hd ht (fun q => k1 q p e s m args below meth c1 H locs cells slots mc ms R ls X hH hS hl) (fun q => k2 q p e s m args below meth c1 H locs cells slots mc ms R ls X hH hS hl)
theorem r_icmp_ge {x y : Int32} {off : Int} {tgt : Nat} (hd : decode cc pc = .ok (.if_icmp .ge off, 3)) (ht : (pc : Int) + off = (tgt : Int)) (k1 : (y ≤ x) → AW g own cc nL ret nm d c n K tgt L rest h) (k2 : ¬ (y ≤ x) → AW g own cc nL ret nm d c n K (pc + 3) L rest h) : AW g own cc nL ret nm d c n K pc L (.int y :: .int x :: rest) h :=
  fun p e s m args below meth c1 H locs cells slots mc ms R ls X hH hS hl => lv_icmp_ge X.1 X.2.1 hd ht (fun q => k1 q p e s m args below meth c1 H locs cells slots mc ms R ls X hH hS hl) (fun q => k2 q p e s m args below meth c1 H locs cells slots mc ms R ls X hH hS hl)
theorem r_if_gt {x : Int32} {off : Int} {tgt : Nat} (hd : decode cc pc = .ok (.ifCond .gt off, 3)) (ht : (pc : Int) + off = (tgt : Int)) (k1 : (0 < x) → AW g own cc nL ret nm d c n K tgt L rest h) (k2 : ¬ (0 < x) → AW g own cc nL ret nm d c n K (pc + 3) L rest h) : AW g own cc nL ret nm d c n K pc L (.int x :: rest) h :=
  fun p e s m args below meth c1 H locs cells slots mc ms R ls X hH hS hl => lv_if_gt X.1 X.2.1 hd ht (fun q => k1 q p e s m args below meth c1 H locs cells slots mc ms R ls X hH hS hl) (fun q => k2 q p e s m args below meth c1 H locs cells slots mc ms R ls X hH hS hl)
theorem r_icmp_gt {x y : Int32} {off : Int} {tgt : Nat} (hd : decode cc pc = .ok (.if_icmp .gt off, 3)) (ht : (pc : Int) + off = (tgt : Int)) (k1 : (y < x) → AW g own cc nL ret nm d c n K tgt L rest h) (k2 : ¬ (y < x) → AW g own cc nL ret nm d c n K (pc + 3) L rest h) : AW g own cc nL ret nm d c n K pc L (.int y :: .int x :: rest) h :=
  fun p e s m args below meth c1 H locs cells slots mc ms R ls X hH hS hl => lv_icmp_gt X.1 X.2.1 hd ht (fun q => k1 q p e s m args below meth c1 H locs cells slots mc ms R ls X hH hS hl) (fun q => k2 q p e s m args below meth c1 H locs cells slots mc ms R ls X hH hS hl)
theorem r_if_le {x : Int32} {off : Int} {tgt : Nat} (hd : decode cc pc = .ok (.ifCond .le off, 3)) (ht : (pc : Int) + off = (tgt : Int)) (k1 : (x ≤ 0) → AW g own cc nL ret nm d c n K tgt L rest h) (k2 : ¬ (x ≤ 0) → AW g own cc nL ret nm d c n K (pc + 3) L rest h) : AW g own cc nL ret nm d c n K pc L (.int x :: rest) h :=
  fun p e s m args below meth c1 H locs cells slots mc ms R ls X hH hS hl => lv_if_le X.1 X.2.1 hd ht (fun q => k1 q p e s m args below meth c1 H locs cells slots mc ms R ls X hH hS hl) (fun q => k2 q p e s m args below meth c1 H locs cells slots mc ms R ls X hH hS hl)
theorem r_icmp_le {x y : Int32} {off : Int} {tgt : Nat} (hd : decode cc pc = .ok (.if_icmp .le off, 3)) (ht : (pc : Int) + off = (tgt : Int)) (k1 : (x ≤ y) → AW g own cc nL ret nm d c n K tgt L rest h) (k2 : ¬ (x ≤ y) → AW g own cc nL ret nm d c n K (pc + 3) L rest h) : AW g own cc nL ret nm d c n K pc L (.int y :: .int x :: rest) h :=
  fun p e s m args below meth c1 H locs cells slots mc ms R ls X hH hS hl => lv_icmp_le X.1 X.2.1 hd ht (fun q => k1 q p e s m args below meth c1 H locs cells slots mc ms R ls X hH hS hl) (fun q => k2 q p e s m args below meth c1 H locs cells slots mc ms R ls X hH hS hl)
theorem r_goto {off : Int} {tgt : Nat} (hd : decode cc pc = .ok (.goto off, 3)) (ht : (pc : Int) + off = (tgt : Int)) (k : AW g own cc nL ret nm d c n K tgt L rest h) : AW g own cc nL ret nm d c n K pc L rest h :=
  fun p e s m args below meth c1 H locs cells slots mc ms R ls X hH hS hl => lv_goto X.1 X.2.1 hd ht (k p e s m args below meth c1 H locs cells slots mc ms R ls X hH hS hl)
theorem r_ifnullN {off : Int} {tgt : Nat} (hd : decode cc pc = .ok (.ifnull off, 3)) (ht : (pc : Int) + off = (tgt : Int)) (k : AW g own cc nL ret nm d c n K tgt L rest h) : AW g own cc nL ret nm d c n K pc L (.null :: rest) h :=
  fun p e s m args below meth c1 H locs cells slots mc ms R ls X hH hS hl => lv_ifnullN X.1 X.2.1 hd ht (k p e s m args below meth c1 H locs cells slots mc ms R ls X hH hS hl)
theorem r_ifnonnull {x : Nat} {off : Int} {tgt : Nat} (hd : decode cc pc = .ok (.ifnonnull off, 3)) (ht : (pc : Int) + off = (tgt : Int)) (k : AW g own cc nL ret nm d c n K tgt L rest h) : AW g own cc nL ret nm d c n K pc L (.ref x :: rest) h :=
  fun p e s m args below meth c1 H locs cells slots mc ms R ls X hH hS hl => lv_ifnonnull X.1 X.2.1 hd ht (k p e s m args below meth c1 H locs cells slots mc ms R ls X hH hS hl)
theorem r_ifnull {x : Nat} {off : Int} (hd : decode cc pc = .ok (.ifnull off, 3)) (k : AW g own cc nL ret nm d c n K (pc + 3) L rest h) : AW g own cc nL ret nm d c n K pc L (.ref x :: rest) h :=
  fun p e s m args below meth c1 H locs cells slots mc ms R ls X hH hS hl => lv_ifnull X.1 X.2.1 hd  (k p e s m args below meth c1 H locs cells slots mc ms R ls X hH hS hl)
theorem r_ifnonnullN {off : Int} (hd : decode cc pc = .ok (.ifnonnull off, 3)) (k : AW g own cc nL ret nm d c n K (pc + 3) L rest h) : AW g own cc nL ret nm d c n K pc L (.null :: rest) h :=
  fun p e s m args below meth c1 H locs cells slots mc ms R ls X hH hS hl => lv_ifnonnullN X.1 X.2.1 hd  (k p e s m args below meth c1 H locs cells slots mc ms R ls X hH hS hl)
theorem r_tabOut {dflt lo hi : Int} {offs : Array Int} {len : Nat} {x : Int32} {tgt : Nat} (hd : decode cc pc = .ok (.tableswitch dflt lo hi offs, len)) (h1 : x.toInt < lo ∨ hi < x.toInt) (ht : (pc : Int) + dflt = (tgt : Int)) (k : AW g own cc nL ret nm d c n K tgt L rest h) : AW g own cc nL ret nm d c n K pc L (.int x :: rest) h :=
  fun p e s m args below meth c1 H locs cells slots mc ms R ls X hH hS hl => lv_tableOut X.1 X.2.1 hd h1 ht (k p e s m args below meth c1 H locs cells slots mc ms R ls X hH hS hl)
theorem r_tabIn {dflt lo hi : Int} {offs : Array Int} {len : Nat} {x : Int32} {off : Int} {tgt : Nat} (hd : decode cc pc = .ok (.tableswitch dflt lo hi offs, len)) (h1 : ¬ x.toInt < lo) (h2 : ¬ hi < x.toInt) (ho : offs[(x.toInt - lo).toNat]? = some off) (ht : (pc : Int) + off = (tgt : Int)) (k : AW g own cc nL ret nm d c n K tgt L rest h) : AW g own cc nL ret nm d c n K pc L (.int x :: rest) h :=
  fun p e s m args below meth c1 H locs cells slots mc ms R ls X hH hS hl => lv_tableIn X.1 X.2.1 hd h1 h2 ho ht (k p e s m args below meth c1 H locs cells slots mc ms R ls X hH hS hl)
theorem r_look {dflt : Int} {ps : Array (Int × Int)} {len : Nat} {x : Int32} {off : Int} {tgt : Nat} (hd : decode cc pc = .ok (.lookupswitch dflt ps, len)) (hp : (ps.toList.zip (ps.toList.drop 1)).all (fun (a, next) => a.1 < next.1) = true) (ho : Op.lookupswitch.offset ps.toList dflt x.toInt = off) (ht : (pc : Int) + off = (tgt : Int)) (k : AW g own cc nL ret nm d c n K tgt L rest h) : AW g own cc nL ret nm d c n K pc L (.int x :: rest) h :=
  fun p e s m args below meth c1 H locs cells slots mc ms R ls X hH hS hl => lv_lookup X.1 X.2.1 hd hp ho ht (k p e s m args below meth c1 H locs cells slots mc ms R ls X hH hS hl)
theorem r_ldc {idx : Nat} {v : Int32} (hd : decode cc pc = .ok (.ldc idx, 2)) (hw : Cond.constant own idx v ∈ lw_tbl) (k : AW g own cc nL ret nm d c n K (pc + 2) L (.int v :: rest) h) : AW g own cc nL ret nm d c n K pc L rest h :=
  fun p e s m args below meth c1 H locs cells slots mc ms R ls X hH hS hl => lv_ldc X.1 X.2.1 X.2.2.2.2.2.2.1 (X.2.2.2.2.2.2.2.1 _ hw) hd (k p e s m args below meth c1 H locs cells slots mc ms R ls X hH hS hl)
theorem r_ldc2 {idx : Nat} {v : Int64} (hd : decode cc pc = .ok (.ldc2_w idx, 3)) (hw : Cond.constantLong own idx v ∈ lw_tbl) (k : AW g own cc nL ret nm d c n K (pc + 3) L (.long v :: rest) h) : AW g own cc nL ret nm d c n K pc L rest h :=
  fun p e s m args below meth c1 H locs cells slots mc ms R ls X hH hS hl => lv_ldc2 X.1 X.2.1 X.2.2.2.2.2.2.1 (X.2.2.2.2.2.2.2.1 _ hw) hd (k p e s m args below meth c1 H locs cells slots mc ms R ls X hH hS hl)
end R1
