/-! the class is made: a heap as a list of cells over another -/
abbrev KL : Type := List (Nat × hE)
def kHp (h0 : hH) : KL → hH
  | [] => h0
  | p :: L => hu (kHp h0 L) p.1 p.2
/-- apart, and new -/
def KO (h0 : hH) (L : KL) : Prop := (L.map (fun p => p.1)).Nodup ∧ ∀ a ∈ L.map (fun p => p.1), h0 a = none
theorem hu_cm {h : hH} {a b : Nat} {e f : hE} (n : a ≠ b) : hu (hu h b f) a e = hu (hu h a e) b f := by
  funext q
  by_cases h1 : q = a
  · subst h1; rw [hu_eq, hu_ne n, hu_eq]
  · rw [hu_ne h1]
    by_cases h2 : q = b
    · subst h2; rw [hu_eq, hu_eq]
    · rw [hu_ne h2, hu_ne h2, hu_ne h1]
theorem KO.cons {h0 : hH} {p : Nat × hE} {L : KL} : KO h0 (p :: L) ↔ (p.1 ∉ L.map (fun p => p.1) ∧ h0 p.1 = none) ∧ KO h0 L := by
  unfold KO
  rw [List.map_cons, List.nodup_cons, List.forall_mem_cons]
  exact ⟨fun ⟨⟨a, b⟩, c, d⟩ => ⟨⟨a, c⟩, b, d⟩, fun ⟨⟨a, c⟩, b, d⟩ => ⟨⟨a, b⟩, c, d⟩⟩
theorem kA_at {h0 : hH} : ∀ {L : KL} {i a : Nat} {e : hE}, KO h0 L → L[i]? = some (a, e) → kHp h0 L a = some e
  | [], _, _, _, _, h => by simp at h
  | p :: L, 0, a, e, _, h => by
    have e1 : p = (a, e) := by simpa using h
    subst e1
    exact hu_eq _ _ _
  | p :: L, i + 1, a, e, hO, h => by
    have h' : L[i]? = some (a, e) := by simpa using h
    have n : a ≠ p.1 := fun z => (KO.cons.mp hO).1.1 (by rw [← z]; exact List.mem_map.mpr ⟨(a, e), List.mem_of_getElem? h', rfl⟩)
    show hu (kHp h0 L) p.1 p.2 a = _
    rw [hu_ne n]
    exact kA_at (KO.cons.mp hO).2 h'
theorem kA_none {h0 : hH} {a : Nat} : ∀ {L : KL}, kHp h0 L a = none → a ∉ L.map (fun p => p.1) ∧ h0 a = none
  | [], h => ⟨by simp, h⟩
  | p :: L, h => by
    have h' : hu (kHp h0 L) p.1 p.2 a = none := h
    by_cases e : a = p.1
    · rw [e, hu_eq] at h'
      cases h'
    · rw [hu_ne e] at h'
      obtain ⟨h1, h2⟩ := kA_none h'
      refine ⟨fun z => ?_, h2⟩
      rw [List.map_cons, List.mem_cons] at z
      rcases z with z | z
      · exact e z
      · exact h1 z
theorem KO.new {h0 : hH} {L : KL} {a : Nat} {e : hE} (hO : KO h0 L) (h : kHp h0 L a = none) : KO h0 ((a, e) :: L) := KO.cons.mpr ⟨kA_none h, hO⟩
theorem kset_map : ∀ {L : KL} {i a : Nat} {e0 e : hE}, L[i]? = some (a, e0) → (L.set i (a, e)).map (fun p => p.1) = L.map (fun p => p.1)
  | [], _, _, _, _, h => by simp at h
  | p :: L, 0, a, e0, e, h => by
    have e1 : p = (a, e0) := by simpa using h
    subst e1
    rfl
  | p :: L, i + 1, a, e0, e, h => by
    have h' : L[i]? = some (a, e0) := by simpa using h
    rw [List.set_cons_succ, List.map_cons, List.map_cons, kset_map h']
theorem KO.cg {h0 : hH} {L L' : KL} (hO : KO h0 L) (e : L'.map (fun p => p.1) = L.map (fun p => p.1)) : KO h0 L' := by
  unfold KO at hO ⊢
  rw [e]
  exact hO
theorem kA_set {h0 : hH} : ∀ {L : KL} {i a : Nat} {e0 e : hE}, KO h0 L → L[i]? = some (a, e0) → hu (kHp h0 L) a e = kHp h0 (L.set i (a, e))
  | [], _, _, _, _, _, h => by simp at h
  | p :: L, 0, a, e0, e, _, h => by
    have e1 : p = (a, e0) := by simpa using h
    subst e1
    exact hu_hu _ _ _ _
  | p :: L, i + 1, a, e0, e, hO, h => by
    have h' : L[i]? = some (a, e0) := by simpa using h
    have n : a ≠ p.1 := fun z => (KO.cons.mp hO).1.1 (by rw [← z]; exact List.mem_map.mpr ⟨(a, e0), List.mem_of_getElem? h', rfl⟩)
    show hu (hu (kHp h0 L) p.1 p.2) a e = hu (kHp h0 (L.set i (a, e))) p.1 p.2
    rw [hu_cm n, kA_set (KO.cons.mp hO).2 h']
theorem KO.set {h0 : hH} {L : KL} {i a : Nat} {e0 e : hE} (hO : KO h0 L) (h : L[i]? = some (a, e0)) : KO h0 (L.set i (a, e)) := hO.cg (kset_map h)
theorem kA_mid {h0 : hH} {x : Nat × hE} {B : KL} : ∀ {A : KL}, KO h0 (A ++ x :: B) → kHp h0 (A ++ x :: B) = kHp h0 (x :: (A ++ B))
  | [], _ => rfl
  | p :: A, hO => by
    have n : p.1 ≠ x.1 := fun z => (KO.cons.mp hO).1.1 (by rw [z]; exact List.mem_map.mpr ⟨x, List.mem_append_right A List.mem_cons_self, rfl⟩)
    show hu (kHp h0 (A ++ x :: B)) p.1 p.2 = hu (hu (kHp h0 (A ++ B)) p.1 p.2) x.1 x.2
    rw [kA_mid (KO.cons.mp hO).2]
    exact hu_cm n
theorem KO.mid {h0 : hH} {x : Nat × hE} {A B : KL} (hO : KO h0 (A ++ x :: B)) : KO h0 (x :: (A ++ B)) := by
  have p : ((A ++ x :: B).map (fun p => p.1)).Perm ((x :: (A ++ B)).map (fun p => p.1)) := List.Perm.map _ List.perm_middle
  exact ⟨p.nodup_iff.mp hO.1, fun a ha => hO.2 a (p.mem_iff.mpr ha)⟩
/-- an array of ints; a row of zeros -/
abbrev iA (N : Nat) (f : Nat → Int32) : hE := .inl (0, N, .inl f)
abbrev zF : Nat → Int32 := fun _ => 0
section KR
variable {g : GC} {own : String} {cc : ByteArray} {nL : Nat} {ret : Option FieldType} {nm : String} {d c n c' n' : Nat} {K : Option Value → hH → Prop} {pc : Nat} {L : List (Nat × Value)} {rest : List Value} {h0 : hH} {M : KL}
theorem k_newa {atype : ArrayType} {t0 N : Nat} {ty : FieldType} {z : Int32} {a0 : vp_A} (hd : decode cc pc = .ok (.newarray atype, 2)) (hw : Cond.arrayClass (newarray.typeOf atype) ∈ tb) (hty : newarray.typeOf atype = ty) (ht : (tys (gA g))[t0]? = some (gA g t0, ty)) (hobj : ∀ C, ty ≠ .object C) (ha : ∀ cA : ClassId, vp_cell cA a0 = arrV cA N (fun _ => defaultValue ty)) (hz : ¬ z < 0) (hN : z.toNatClampNeg = N) (hbytes : N * componentBytes ty ≤ 536870912) (hc : c = c' + 1) (hn : n = n' + N) (hO : KO h0 M)
    (kk : ∀ a : Nat, KO h0 ((a, .inl (t0, a0)) :: M) → AW g own cc nL ret nm d c' n' K (pc + 2) L (.ref a :: rest) (kHp h0 ((a, .inl (t0, a0)) :: M))) : AW g own cc nL ret nm d c n K pc L (.int z :: rest) (kHp h0 M) := by
  subst hc; subst hn
  refine r_newa hd hw hty ht hobj ha hz hN hbytes (Nat.le_add_left 1 c') (Nat.le_add_left N n') (fun a q => ?_)
  rw [Nat.add_sub_cancel, Nat.add_sub_cancel]
  exact kk a (hO.new q)
theorem k_newq {idx t0 N : Nat} {C : String} {z : Int32} (hd : decode cc pc = .ok (.anewarray idx, 3)) (hw : Cond.classLink own idx C ∈ tb) (hov : ∀ s, gR g s → va_AO C s) (ht : (tys (gA g))[t0]? = some (gA g t0, .object C)) (hz : ¬ z < 0) (hN : z.toNatClampNeg = N) (hbytes : N * 4 ≤ 536870912) (hc : c = c' + 1) (hn : n = n' + N) (hO : KO h0 M)
    (kk : ∀ a : Nat, KO h0 ((a, .inl (t0, N, .inr (.inr (.inr (.inr (fun _ => none)))))) :: M) → AW g own cc nL ret nm d c' n' K (pc + 3) L (.ref a :: rest) (kHp h0 ((a, .inl (t0, N, .inr (.inr (.inr (.inr (fun _ => none)))))) :: M))) : AW g own cc nL ret nm d c n K pc L (.int z :: rest) (kHp h0 M) := by
  subst hc; subst hn
  refine r_newq hd hw hov ht hz hN hbytes (Nat.le_add_left 1 c') (Nat.le_add_left N n') (fun a q => ?_)
  rw [Nat.add_sub_cancel, Nat.add_sub_cancel]
  exact kk a (hO.new q)
theorem k_new {idx ci N : Nat} {fs : List Value} (hd : decode cc pc = .ok (.new idx, 3)) (hw : NW own idx ci N fs) (hc : c = c' + 1) (hn : n = n' + N) (hO : KO h0 M)
    (kk : ∀ a : Nat, KO h0 ((a, .inr (ci, fs)) :: M) → AW g own cc nL ret nm d c' n' K (pc + 3) L (.ref a :: rest) (kHp h0 ((a, .inr (ci, fs)) :: M))) : AW g own cc nL ret nm d c n K pc L rest (kHp h0 M) := by
  subst hc; subst hn
  refine r_new hd hw (Nat.le_add_left 1 c') (Nat.le_add_left N n') (fun a q => ?_)
  rw [Nat.add_sub_cancel, Nat.add_sub_cancel]
  exact kk a (hO.new q)
theorem k_putF {a idx ci k i : Nat} {fs : List Value} {v : Value} {ty : FieldType} (M' : KL) (hd : decode cc pc = .ok (.putfield idx, 3)) (hf : FP own idx ci k ty true) (hi0 : nm = "<init>") (ha : M[i]? = some (a, .inr (ci, fs))) (hn : narrow ty v = v) (hfit : fits ty v = true) (hk : k < fs.length) (hM : M.set i (a, .inr (ci, fs.set k v)) = M') (hO : KO h0 M) (kk : KO h0 M' → AW g own cc nL ret nm d c n K (pc + 3) L rest (kHp h0 M')) : AW g own cc nL ret nm d c n K pc L (v :: .ref a :: rest) (kHp h0 M) := by
  subst hM
  refine r_putF hd hf hi0 (kA_at hO ha) hn hfit hk ?_
  rw [kA_set hO ha]
  exact kk (hO.set ha)
theorem k_putf {a idx ci k i : Nat} {fs : List Value} {v : Value} {ty : FieldType} (M' : KL) (hd : decode cc pc = .ok (.putfield idx, 3)) (hf : FP own idx ci k ty false) (ha : M[i]? = some (a, .inr (ci, fs))) (hn : narrow ty v = v) (hfit : fits ty v = true) (hk : k < fs.length) (hM : M.set i (a, .inr (ci, fs.set k v)) = M') (hO : KO h0 M) (kk : KO h0 M' → AW g own cc nL ret nm d c n K (pc + 3) L rest (kHp h0 M')) : AW g own cc nL ret nm d c n K pc L (v :: .ref a :: rest) (kHp h0 M) := by
  subst hM
  refine r_putf hd hf (kA_at hO ha) hn hfit hk ?_
  rw [kA_set hO ha]
  exact kk (hO.set ha)
theorem k_getf {a idx ci k i : Nat} {fs : List Value} {v : Value} (hd : decode cc pc = .ok (.getfield idx, 3)) (hf : FL own idx ci k) (ha : M[i]? = some (a, .inr (ci, fs))) (hv : fs[k]? = some v) (hO : KO h0 M) (kk : AW g own cc nL ret nm d c n K (pc + 3) L (v :: rest) (kHp h0 M)) : AW g own cc nL ret nm d c n K pc L (.ref a :: rest) (kHp h0 M) := r_getf hd hf (kA_at hO ha) hv kk
theorem k_aast {a b t0 ci N i j : Nat} {f : Nat → Option Nat} {r : vw_C} {vs : List Value} {x : Int32} (M' : KL) (hd : decode cc pc = .ok (.aastore, 1)) (ha : M[i]? = some (a, .inl (t0, N, .inr (.inr (.inr (.inr f)))))) (ht : (tys (gA g))[t0]? = some (gA g t0, .object r.1)) (hb : M[j]? = some (b, .inr (ci, vs))) (hc : vwCl[ci]? = some r) (hin : vp_in x N) (hM : M.set i (a, .inl (t0, N, .inr (.inr (.inr (.inr (va_up f x.toNatClampNeg (some b))))))) = M') (hO : KO h0 M) (kk : KO h0 M' → AW g own cc nL ret nm d c n K (pc + 1) L rest (kHp h0 M')) : AW g own cc nL ret nm d c n K pc L (.ref b :: .int x :: .ref a :: rest) (kHp h0 M) := by
  subst hM
  refine r_aast hd (kA_at hO ha) ht (kA_at hO hb) hc hin ?_
  rw [kA_set hO ha]
  exact kk (hO.set ha)
theorem k_fill {a idx i N : Nat} {v : Int32} {f : Nat → Int32} (M' : KL) (hd : decode cc pc = .ok (.invokestatic idx, 3)) (hlk : Cond.methodLink own idx yJ7_fill_53178 ∈ tb) (ha : M[i]? = some (a, iA N f)) (hN : N < 1000000) (hcat : (rest.map fun v => v.category).sum ≤ 8) (hd1 : 1 ≤ d) (hM : M.set i (a, iA N (fillF N v f)) = M') (hO : KO h0 M) (kk : KO h0 M' → AW g own cc nL ret nm d c n K (pc + 3) L rest (kHp h0 M')) : AW g own cc nL ret nm d c n K pc L (.int v :: .ref a :: rest) (kHp h0 M) := by
  subst hM
  refine r_callS (As := [.ref a, .int v]) (c1 := 0) (n1 := 0) (d1 := d - 1) hd mf_J7_fill_53178 hlk (ok_fill (f := f) (kA_at hO ha) hN) rfl rfl hcat (by omega) (Nat.zero_le _) (Nat.zero_le _) (fun v' h' hh => ?_)
  obtain ⟨rfl, rfl⟩ := hh
  rw [kA_set hO ha]
  exact kk (hO.set ha)
theorem k_mid {x : Nat × hE} {A B : KL} (hO : KO h0 (A ++ x :: B)) (kk : KO h0 (x :: (A ++ B)) → AW g own cc nL ret nm d c n K pc L rest (kHp h0 (x :: (A ++ B)))) : AW g own cc nL ret nm d c n K pc L rest (kHp h0 (A ++ x :: B)) := by
  rw [kA_mid hO]
  exact kk hO.mid
end KR
