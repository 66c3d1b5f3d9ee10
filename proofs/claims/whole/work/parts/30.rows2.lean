section R5
variable {g : GC} {own : String} {cc : ByteArray} {nL : Nat} {ret : Option FieldType} {nm : String} {d c n : Nat} {K : Option Value → hH → Prop} {pc : Nat} {L : List (Nat × Value)} {rest : List Value} {h : hH}
abbrev gF (g : GC) : Nat → Prop := fun q => gN g ≤ q
/-- what only is read: a static, a table, a String -/
abbrev RZ (g : GC) (C nn dd : String) (v : Value) : Prop := ∀ s, gR g s → va_Z C nn dd v (gF g) s s.heap
abbrev RT (g : GC) (ty : FieldType) (t N : Nat) (f : Nat → Value) : Prop := ∀ s, gR g s → va_T ty t N f (gF g) s s.heap
theorem r_gets {idx : Nat} {C nn dd : String} {v : Value} (hd : decode cc pc = .ok (.getstatic idx, 3)) (hZ : RZ g C nn dd v) (hl : Cond.fieldLink own idx C nn dd ∈ tb) (kk : AW g own cc nL ret nm d c n K (pc + 3) L (v :: rest) h) : AW g own cc nL ret nm d c n K pc L rest h := by
  intro p e s m args below meth c1 H locs cells slots mc ms R ls X hH hS hl'
  obtain ⟨x1, x2, x3, x4, x5, x6, x7, x8, x9, x10, x11, x12, x13, x14, x15, x16, x17, x18⟩ := id X
  exact va_gets x1 x2 (hZ s x11) hS x7 (x8 _ hl) (fun _ z => z) hd (kk p e s m args below meth c1 H locs cells slots mc ms R ls X hH hS hl')
theorem r_getsN {idx : Nat} {C nn dd host : String} {v : Value} (hd : decode cc pc = .ok (.getstatic idx, 3)) (hZ : RZ g C nn dd v) (hl : ∀ s, gR g s → va_Nw (.fieldLinkNest own idx C nn dd host) s) (kk : AW g own cc nL ret nm d c n K (pc + 3) L (v :: rest) h) : AW g own cc nL ret nm d c n K pc L rest h := by
  intro p e s m args below meth c1 H locs cells slots mc ms R ls X hH hS hl'
  obtain ⟨x1, x2, x3, x4, x5, x6, x7, x8, x9, x10, x11, x12, x13, x14, x15, x16, x17, x18⟩ := id X
  exact va_getsN x1 x2 (hZ s x11) hS x7 (va_Nw.use rfl (hl s x11)) (fun _ z => z) hd (kk p e s m args below meth c1 H locs cells slots mc ms R ls X hH hS hl')
theorem r_ti {t N : Nat} {f : Nat → Value} {i : Int32} {v : Value} (hd : decode cc pc = .ok (.iaload, 1)) (hT : RT g .int t N f) (hin : vp_in i N) (hv : f i.toNatClampNeg = v) (kk : AW g own cc nL ret nm d c n K (pc + 1) L (v :: rest) h) : AW g own cc nL ret nm d c n K pc L (.int i :: .ref t :: rest) h := by
  intro p e s m args below meth c1 H locs cells slots mc ms R ls X hH hS hl'
  obtain ⟨x1, x2, x3, x4, x5, x6, x7, x8, x9, x10, x11, x12, x13, x14, x15, x16, x17, x18⟩ := id X
  exact va_ti x1 x2 (hT s x11) hS hin hv hd (kk p e s m args below meth c1 H locs cells slots mc ms R ls X hH hS hl')
theorem r_tb {t N : Nat} {f : Nat → Value} {i : Int32} {v : Value} (hd : decode cc pc = .ok (.baload, 1)) (hT : RT g .byte t N f) (hin : vp_in i N) (hv : f i.toNatClampNeg = v) (kk : AW g own cc nL ret nm d c n K (pc + 1) L (v :: rest) h) : AW g own cc nL ret nm d c n K pc L (.int i :: .ref t :: rest) h := by
  intro p e s m args below meth c1 H locs cells slots mc ms R ls X hH hS hl'
  obtain ⟨x1, x2, x3, x4, x5, x6, x7, x8, x9, x10, x11, x12, x13, x14, x15, x16, x17, x18⟩ := id X
  exact va_tb x1 x2 (hT s x11) hS hin hv hd (kk p e s m args below meth c1 H locs cells slots mc ms R ls X hH hS hl')
theorem r_tlen {ty : FieldType} {t N : Nat} {f : Nat → Value} {v : Int32} (hd : decode cc pc = .ok (.arraylength, 1)) (hT : RT g ty t N f) (hv : Int32.ofNat N = v) (kk : AW g own cc nL ret nm d c n K (pc + 1) L (.int v :: rest) h) : AW g own cc nL ret nm d c n K pc L (.ref t :: rest) h := by
  intro p e s m args below meth c1 H locs cells slots mc ms R ls X hH hS hl'
  obtain ⟨x1, x2, x3, x4, x5, x6, x7, x8, x9, x10, x11, x12, x13, x14, x15, x16, x17, x18⟩ := id X
  exact va_tlen x1 x2 (hT s x11) hS hv hd (kk p e s m args below meth c1 H locs cells slots mc ms R ls X hH hS hl')
theorem r_ldcS {idx q : Nat} {tx : String} (hd : decode cc pc = .ok (.ldc idx, 2)) (hZ : ∀ s, gR g s → vk_R own idx tx q s) (kk : AW g own cc nL ret nm d c n K (pc + 2) L (.ref q :: rest) h) : AW g own cc nL ret nm d c n K pc L rest h := by
  intro p e s m args below meth c1 H locs cells slots mc ms R ls X hH hS hl'
  obtain ⟨x1, x2, x3, x4, x5, x6, x7, x8, x9, x10, x11, x12, x13, x14, x15, x16, x17, x18⟩ := id X
  exact va_ldcS x1 x2 x7 (hZ s x11) hd (kk p e s m args below meth c1 H locs cells slots mc ms R ls X hH hS hl')
theorem r_getO {idx q : Nat} {C nn dd : String} {v : Value} (hd : decode cc pc = .ok (.getfield idx, 3)) (hE : ∀ s, gR g s → va_OF C nn dd v q (gF g) s s.heap) (hl : Cond.fieldLink own idx C nn dd ∈ tb) (kk : AW g own cc nL ret nm d c n K (pc + 3) L (v :: rest) h) : AW g own cc nL ret nm d c n K pc L (.ref q :: rest) h := by
  intro p e s m args below meth c1 H locs cells slots mc ms R ls X hH hS hl'
  obtain ⟨x1, x2, x3, x4, x5, x6, x7, x8, x9, x10, x11, x12, x13, x14, x15, x16, x17, x18⟩ := id X
  exact vk_getf x1 x2 (hE s x11) hS x7 (x8 _ hl) (fun _ z => z) hd (kk p e s m args below meth c1 H locs cells slots mc ms R ls X hH hS hl')
theorem r_callVO {y : MethodName} {cy : ByteArray} {maxL k0 idx b d1 c1 n1 : Nat} {rt : Option FieldType} {As st0 : List Value} {K1 : Option Value → hH → Prop} (hd : decode cc pc = .ok (.invokevirtual idx, 3)) (hm : MV y cy maxL rt k0) (hl : Cond.methodLink own idx y ∈ tb) (hA : AM g d1 c1 n1 y cy maxL rt (.ref b :: As) h K1) (hO : ∀ s, gR g s → va_O y.cls b (gF g) s s.heap) (hk : As.length = k0) (hst : st0 = As.reverse ++ .ref b :: rest) (hcat : (rest.map fun v => v.category).sum ≤ 8) (hd1 : d1 + 1 ≤ d) (hc1 : c1 ≤ c) (hn1 : n1 ≤ n)
    (kk : ∀ v h', K1 v h' → AW g own cc nL ret nm d (c - c1) (n - n1) K (pc + 3) L (v.toList ++ rest) h') : AW g own cc nL ret nm d c n K pc L st0 h := by
  intro p e s m args below meth c' H locs cells slots mc ms R ls X hH hS hl'
  obtain ⟨x1, x2, x3, x4, x5, x6, x7, x8, x9, x10, x11, x12, x13, x14, x15, x16, x17, x18⟩ := X
  obtain ⟨m1, m2, m3, m4, m5, m6⟩ := hm
  have hG : GoodIn tb (wsV own idx y.cls y (.code y cy maxL rt :: tb)) := GoodIn.tb (fun w hw => by
    simp only [wsV, List.cons_append, List.nil_append, List.mem_cons] at hw
    rcases hw with rfl | rfl | rfl | rfl | rfl | hw <;> assumption)
  have cw := cwV (R := R) (bytes := cy) (maxL := maxL) (ret := rt) (rm := { frames := d1, cells := c1, slots := n1, locals := 64 * d1 }) (mc := c1) (ms := n1) k0 x8 hG rfl rfl rfl ⟨rfl, m5⟩ ⟨Nat.le_trans hd1 x17, by show 8 + (maxL + 11) + 64 * d1 ≤ R.locals; omega⟩
  have hrec : ∃ cell : Cell, H[b]? = some cell ∧ cell.vm.isStatics = false ∧ s.vm.findClass y.cls = some cell.cls := by
    obtain ⟨cell, h1, h2, h3, -⟩ := (hO s x11).kept hS.2.1
    exact ⟨cell, h1, h2, h3⟩
  refine r_back (va_runV (As := As) (rest := rest) (b := b) ⟨x1, x2, x3, x7, x8⟩ hA cw ⟨Pk.blind, hrec, fun U hU hW => ⟨rfl, Pk.call x9 x10 x11 x12 hH hS hU hW⟩⟩ rfl hk hl'.1 hst (lv_room hcat) hd ⟨by omega, by omega⟩) hS (fun v h' H1 locs1 hv hH1 hS1 => ?_)
  exact kk v h' hv p e s m args below meth c' H1 locs1 (cells + c1) (slots + n1) mc ms R ls ⟨x1, x2, x3, x4, x5, x6, x7, x8, x9, x10, x11, x12, by omega, by omega, x15, x16, x17, x18⟩ hH1 hS1 hl'
theorem r_callSN {y : MethodName} {cy : ByteArray} {maxL k0 idx d1 c1 n1 : Nat} {host : String} {rt : Option FieldType} {As st0 : List Value} {K1 : Option Value → hH → Prop} (hd : decode cc pc = .ok (.invokestatic idx, 3)) (hm : MS y cy maxL rt k0) (hl : ∀ s, gR g s → va_Nw (.methodLinkNest own idx y host) s) (hA : AM g d1 c1 n1 y cy maxL rt As h K1) (hk : As.length = k0) (hst : st0 = As.reverse ++ rest) (hcat : (rest.map fun v => v.category).sum ≤ 8) (hd1 : d1 + 1 ≤ d) (hc1 : c1 ≤ c) (hn1 : n1 ≤ n)
    (kk : ∀ v h', K1 v h' → AW g own cc nL ret nm d (c - c1) (n - n1) K (pc + 3) L (v.toList ++ rest) h') : AW g own cc nL ret nm d c n K pc L st0 h := by
  intro p e s m args below meth c' H locs cells slots mc ms R ls X hH hS hl'
  obtain ⟨x1, x2, x3, x4, x5, x6, x7, x8, x9, x10, x11, x12, x13, x14, x15, x16, x17, x18⟩ := X
  obtain ⟨m1, m3, m4, m5, m6⟩ := hm
  have hG : GoodIn tb (.code y cy maxL rt :: tb) := GoodIn.tb (fun w hw => by
    simp only [List.mem_cons] at hw
    rcases hw with rfl | hw <;> assumption)
  have cw := va_cnB (R := R) (bytes := cy) (maxL := maxL) (ret := rt) (rm := { frames := d1, cells := c1, slots := n1, locals := 64 * d1 }) (mc := c1) (ms := n1) k0 x8 hG rfl rfl rfl (hl s x11) (x8 _ m3) m5 ⟨Nat.le_trans hd1 x17, by show 8 + (maxL + 11) + 64 * d1 ≤ R.locals; omega⟩
  refine r_back (va_runSN (As := As) (rest := rest) ⟨x1, x2, x3, x7, x8⟩ hA ⟨cw, x8 _ m1, trivial⟩ ⟨Pk.blind, fun U hU hW => ⟨rfl, Pk.call x9 x10 x11 x12 hH hS hU hW⟩⟩ rfl hk hl'.1 hst (lv_room hcat) hd ⟨by omega, by omega⟩) hS (fun v h' H1 locs1 hv hH1 hS1 => ?_)
  exact kk v h' hv p e s m args below meth c' H1 locs1 (cells + c1) (slots + n1) mc ms R ls ⟨x1, x2, x3, x4, x5, x6, x7, x8, x9, x10, x11, x12, by omega, by omega, x15, x16, x17, x18⟩ hH1 hS1 hl'
theorem r_newq {idx t0 N : Nat} {C : String} {z : Int32} (hd : decode cc pc = .ok (.anewarray idx, 3)) (hw : Cond.classLink own idx C ∈ tb) (hov : ∀ s, gR g s → va_AO C s) (ht : (tys (gA g))[t0]? = some (gA g t0, .object C)) (hz : ¬ z < 0) (hN : z.toNatClampNeg = N) (hbytes : N * 4 ≤ 536870912) (h1 : 1 ≤ c) (h2 : N ≤ n)
    (kk : ∀ q : Nat, h q = none → AW g own cc nL ret nm d (c - 1) (n - N) K (pc + 3) L (.ref q :: rest) (hu h q (.inl (t0, N, .inr (.inr (.inr (.inr (fun _ => none)))))))) : AW g own cc nL ret nm d c n K pc L (.int z :: rest) h := by
  intro p e s m args below meth c1 H locs cells slots mc ms R ls X hH hS hl
  obtain ⟨ws, hP, hD, hi⟩ := id hH
  obtain ⟨x1, x2, x3, x4, x5, x6, x7, x8, x9, x10, x11, x12, x13, x14, x15, x16, x17, x18⟩ := X
  refine va_newq x1 x2 x7 (x8 _ hw) (hov s x11) x10 hP hD hS (fun q hq => Nat.le_trans x12 hq) hz hN hbytes (by omega) (by omega) hd (fun q cA H1 hK1 hP1 hD1 hS1 => ?_)
  have hcA : cA = gA g t0 := by
    obtain ⟨kA, comp, -, -, -, e1⟩ := (hK1.2 (tys (gA g)).length (cA, .object C) (by simp)).2
    obtain ⟨kA2, comp2, -, -, -, e2⟩ := (x10.2 t0 _ ht).2
    exact Option.some.inj (Eq.trans (Eq.symm e1) e2)
  subst hcA
  obtain ⟨hn, hH1⟩ := HP.push (e1 := .inl (t0, N, .inr (.inr (.inr (.inr (fun _ => none)))))) hi hP1 hD1
  exact kk q hn p e s m args below meth c1 H1 locs (cells + 1) (slots + N) mc ms R ls ⟨x1, x2, x3, x4, x5, x6, x7, x8, x9, x10, x11, x12, by omega, by omega, x15, x16, x17, x18⟩ hH1 hS1 hl
theorem r_copy {idx a0 a1 n0 n1 : Nat} {f0 f1 : Nat → Int32} {sp dp z : Int32} (hd : decode cc pc = .ok (.invokestatic idx, 3)) (hl : Cond.methodLink own idx arraycopyName ∈ tb) (hn : Cond.native arraycopyName ∈ tb) (hs : Cond.static arraycopyName ∈ tb) (hini : Cond.initialized "java/lang/System" ∈ tb) (h0 : h a0 = some (.inl (0, n0, .inl f0))) (h1 : h a1 = some (.inl (0, n1, .inl f1))) (c1 : ¬ sp < 0) (c2 : ¬ dp < 0) (c3 : ¬ z < 0) (c4 : sp.toNatClampNeg + z.toNatClampNeg ≤ n0) (c5 : dp.toNatClampNeg + z.toNatClampNeg ≤ n1) (hcat : (rest.map fun v => v.category).sum ≤ 8) (hd1 : 1 ≤ d)
    (kk : AW g own cc nL ret nm d c n K (pc + 3) L rest (hu h a1 (.inl (0, n1, .inl (va_cpy f0 f1 sp.toNatClampNeg dp.toNatClampNeg z.toNatClampNeg))))) : AW g own cc nL ret nm d c n K pc L (.int z :: .int dp :: .ref a1 :: .int sp :: .ref a0 :: rest) h := by
  intro p e s m args below meth c1' H locs cells slots mc ms R ls X hH hS hl'
  obtain ⟨ws, hP, hD, hi⟩ := id hH
  obtain ⟨x1, x2, x3, x4, x5, x6, x7, x8, x9, x10, x11, x12, x13, x14, x15, x16, x17, x18⟩ := id X
  obtain ⟨q0, hq0⟩ := HP.at hi h0
  obtain ⟨q1, hq1⟩ := HP.at hi h1
  have e40 : nativeFrameWords "java/lang/System" "arraycopy" 5 ≤ 40 := by decide
  refine va_copyi x1 x2 (x3.trans hl'.1.symm) x7 (x8 _ hl) (x8 _ hn) (x8 _ hs) (x8 _ hini) x10 hP hD hS q0 q1 0 0 (ty := .int) hq0 hq1 rfl rfl rfl c1 c2 c3 c4 c5 (fun _ _ => rfl) (by omega) (by omega) hd (fun H1 locs1 hP1 hD1 hS1 => ?_)
  exact kk p e s m args below meth c1' H1 locs1 cells slots mc ms R ls X (HP.set (e1 := .inl (0, n1, .inl (va_cpy f0 f1 sp.toNatClampNeg dp.toNatClampNeg z.toNatClampNeg))) hD hi hq1 hP1 hD1) hS1 hl'
theorem r_clone {idx a N : Nat} {f : Nat → Int32} (hd : decode cc pc = .ok (.invokevirtual idx, 3)) (hl : Cond.methodLink own idx ⟨"[I", "clone", "()Ljava/lang/Object;"⟩ ∈ tb) (hsm : Cond.sameMethod "[I" "java/lang/Object" "clone" "()Ljava/lang/Object;" ∈ tb) (hn : Cond.native ⟨"java/lang/Object", "clone", "()Ljava/lang/Object;"⟩ ∈ tb) (hi0 : Cond.instanceMethod ⟨"java/lang/Object", "clone", "()Ljava/lang/Object;"⟩ ∈ tb) (hsel : Cond.selects "[I" ⟨"[I", "clone", "()Ljava/lang/Object;"⟩ ⟨"java/lang/Object", "clone", "()Ljava/lang/Object;"⟩ ∈ tb) (hcl : ∀ s, gR g s → va_Nw (.castable "[I" "java/lang/Cloneable") s) (ha : h a = some (.inl (0, N, .inl f))) (hcat : (rest.map fun v => v.category).sum ≤ 8) (hd1 : 1 ≤ d) (h1 : 1 ≤ c) (h2 : N ≤ n)
    (kk : ∀ q : Nat, h q = none → AW g own cc nL ret nm d (c - 1) (n - N) K (pc + 3) L (.ref q :: rest) (hu h q (.inl (0, N, .inl f)))) : AW g own cc nL ret nm d c n K pc L (.ref a :: rest) h := by
  intro p e s m args below meth c1 H locs cells slots mc ms R ls X hH hS hl'
  obtain ⟨ws, hP, hD, hi⟩ := id hH
  obtain ⟨x1, x2, x3, x4, x5, x6, x7, x8, x9, x10, x11, x12, x13, x14, x15, x16, x17, x18⟩ := X
  obtain ⟨q0, hq0⟩ := HP.at hi ha
  refine va_clone x1 x2 (x3.trans hl'.1.symm) x7 (x8 _ hl) (x8 _ hsm) (x8 _ hn) (x8 _ hi0) (x8 _ hsel) (hcl s x11) x10 hP hD hS (fun q hq => Nat.le_trans x12 hq) q0 0 (ty := .int) hq0 rfl (x10.2 0 _ rfl).2 (fun i v hv => ?_) (by omega) (by omega) (by omega) (by show slots + N ≤ _; omega) hd (fun q H1 hK1 hP1 hD1 hS1 => ?_)
  · have hi' : i < N := by
      have this : i < (vp_cell (gA g 0) (N, Sum.inl f)).slots.size := (Array.getElem?_eq_some_iff.mp hv).1
      have e : (vp_cell (gA g 0) (N, Sum.inl f)).slots.size = N := arrV_size _ _ _
      omega
    have e2 : (vp_cell (gA g 0) (N, Sum.inl f)).slots[i]? = some (.int (f i)) := arrV_read _ _ hi'
    have e3 := e2.symm.trans hv
    cases e3
    rfl
  · obtain ⟨hn', hH1⟩ := HP.push (e1 := .inl (0, N, .inl f)) hi hP1 hD1
    exact kk q hn' p e s m args below meth c1 H1 locs (cells + 1) (slots + N) mc ms R ls ⟨x1, x2, x3, x4, x5, x6, x7, x8, x9, x10, x11, x12, by show cells + 1 + (c - 1) ≤ mc; omega, by show slots + N + (n - N) ≤ ms; omega, x15, x16, x17, x18⟩ hH1 hS1 hl'
theorem r_castI {idx a N : Nat} {f : Nat → Int32} (hd : decode cc pc = .ok (.checkcast idx, 3)) (hl : Cond.classLink own idx "[I" ∈ tb) (ha : h a = some (.inl (0, N, .inl f))) (kk : AW g own cc nL ret nm d c n K (pc + 3) L (.ref a :: rest) h) : AW g own cc nL ret nm d c n K pc L (.ref a :: rest) h := by
  intro p e s m args below meth c1 H locs cells slots mc ms R ls X hH hS hl'
  obtain ⟨ws, hP, hD, hi⟩ := id hH
  obtain ⟨x1, x2, x3, x4, x5, x6, x7, x8, x9, x10, x11, x12, x13, x14, x15, x16, x17, x18⟩ := id X
  obtain ⟨q0, hq0⟩ := HP.at hi ha
  exact va_castA x1 x2 x7 (x8 _ hl) hP q0 hq0 (x10.2 0 _ rfl).2 hd (kk p e s m args below meth c1 H locs cells slots mc ms R ls X hH hS hl')
theorem r_ldcw {idx : Nat} {v : Int32} (hd : decode cc pc = .ok (.ldc_w idx, 3)) (hw : Cond.constant own idx v ∈ tb) (k : AW g own cc nL ret nm d c n K (pc + 3) L (.int v :: rest) h) : AW g own cc nL ret nm d c n K pc L rest h := by
  intro p e s m args below meth c1 H locs cells slots mc ms R ls X hH hS hl
  obtain ⟨x1, x2, x3, x4, x5, x6, x7, x8, x9, x10, x11, x12, x13, x14, x15, x16, x17, x18⟩ := id X
  exact lv_ldcw x1 x2 x7 (x8 _ hw) hd (k p e s m args below meth c1 H locs cells slots mc ms R ls X hH hS hl)
theorem r_cmpN {x : Nat} (hx : h x = none) {e : hE} {a : Nat} (ha : h a = some e) : a ≠ x := fun q => by rw [q, hx] at ha; cases ha
end R5
