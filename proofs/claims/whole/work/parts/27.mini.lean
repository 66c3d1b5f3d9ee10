theorem AW.mono {g : GC} {own : String} {cc : ByteArray} {nL : Nat} {ret : Option FieldType} {nm : String} {d c n : Nat} {K K' : Option Value → hH → Prop} {pc : Nat} {L : List (Nat × Value)} {st : List Value} {h : hH} (hk : ∀ v h, K v h → K' v h) (k : AW g own cc nL ret nm d c n K pc L st h) : AW g own cc nL ret nm d c n K' pc L st h := by
  intro p e s m args below meth c1 H locs cells slots mc ms R ls X hH hS hl T hT hX
  obtain ⟨t, a, o, b1, b2, ⟨⟨v, h', e1, e2, e3⟩, b3⟩, b4⟩ := k p e s m args below meth c1 H locs cells slots mc ms R ls X hH hS hl T hT hX
  exact ⟨t, a, o, b1, b2, ⟨⟨v, h', e1, hk v h' e2, e3⟩, b3⟩, b4⟩
def sz0 : MSt := (fun _ => 0, 0, fun _ _ => 0)
/-- the reference while it is made: its fields, and the arrays (slot, address) that it has -/
def iH (h0 : hH) (q : Nat) (fs : List Value) (al : List (Nat × Nat)) : hH := fun x => if x = q then some (.inr (10, fs)) else match al.find? (fun p => p.2 == x) with
  | some p => some (mArr sz0 p.1)
  | none => h0 x
def AOk (q : Nat) (al : List (Nat × Nat)) : Prop := (∀ p ∈ al, p.2 ≠ q) ∧ ∀ (i j : Nat) (p p' : Nat × Nat), al[i]? = some p → al[j]? = some p' → p.2 = p'.2 → i = j
theorem iH_q (h0 : hH) (q : Nat) (fs : List Value) (al : List (Nat × Nat)) : iH h0 q fs al q = some (.inr (10, fs)) := if_pos rfl
theorem iH_0 {h0 : hH} {q : Nat} {fs : List Value} (h : h0 q = some (.inr (10, fs))) : iH h0 q fs [] = h0 := by
  funext x
  unfold iH
  split
  · next e => rw [e, h]
  · rfl
theorem iH_add {h0 : hH} {q a k : Nat} {fs fs' : List Value} {al : List (Nat × Nat)} (ha : iH h0 q fs al a = none) : hu (hu (iH h0 q fs al) a (mArr sz0 k)) q (.inr (10, fs')) = iH h0 q fs' (al ++ [(k, a)]) ∧ a ≠ q ∧ ∀ p ∈ al, p.2 ≠ a := by
  have h1 : a ≠ q := fun z => by rw [z, iH_q] at ha; cases ha
  have h2 : ∀ p ∈ al, p.2 ≠ a := by
    intro p hp z
    unfold iH at ha
    rw [if_neg h1] at ha
    cases hf : al.find? (fun p => p.2 == a) with
    | none => have := List.find?_eq_none.mp hf p hp; simp [z] at this
    | some p' => rw [hf] at ha; cases ha
  refine ⟨funext fun x => ?_, h1, h2⟩
  by_cases e1 : x = q
  · rw [e1, hu_eq, iH_q]
  · rw [hu_ne e1]
    by_cases e2 : x = a
    · subst e2
      rw [hu_eq]
      unfold iH
      rw [if_neg e1, List.find?_append]
      have : al.find? (fun p => p.2 == x) = none := List.find?_eq_none.mpr (fun p hp => by simpa using h2 p hp)
      rw [this]
      simp
    · rw [hu_ne e2]
      unfold iH
      rw [if_neg e1, if_neg e1, List.find?_append]
      cases al.find? (fun p => p.2 == x) with
      | some p => rfl
      | none =>
        have : List.find? (fun p => p.2 == x) [(k, a)] = none := List.find?_eq_none.mpr (fun p hp => by simp at hp; subst hp; simpa using fun z => e2 z.symm)
        rw [this]
        rfl
theorem AOk.add {q a k : Nat} {al : List (Nat × Nat)} (h : AOk q al) (h1 : a ≠ q) (h2 : ∀ p ∈ al, p.2 ≠ a) : AOk q (al ++ [(k, a)]) := by
  have key : ∀ (i : Nat) (p : Nat × Nat), (al ++ [(k, a)])[i]? = some p → (al[i]? = some p ∧ p ∈ al) ∨ (i = al.length ∧ p = (k, a)) := by
    intro i p hp
    by_cases hl : i < al.length
    · rw [List.getElem?_append_left hl] at hp
      exact Or.inl ⟨hp, List.mem_of_getElem? hp⟩
    · rw [List.getElem?_append_right (by omega)] at hp
      have hz : i - al.length < 1 := (List.getElem?_eq_some_iff.mp hp).1
      have hi : i = al.length := by omega
      subst hi
      rw [Nat.sub_self] at hp
      exact Or.inr ⟨rfl, (Option.some.inj hp).symm⟩
  refine ⟨fun p hp => ?_, fun i j p p' hi hj e => ?_⟩
  · rcases List.mem_append.mp hp with z | z
    · exact h.1 p z
    · simp at z; subst z; exact h1
  · rcases key i p hi with ⟨a1, b1⟩ | ⟨a1, b1⟩ <;> rcases key j p' hj with ⟨a2, b2⟩ | ⟨a2, b2⟩
    · exact h.2 i j p p' a1 a2 e
    · subst b2; exact absurd e (h2 p b1)
    · subst b1; exact absurd e.symm (h2 p' b2)
    · omega
theorem i_na {g : GC} {cc : ByteArray} {nL : Nat} {ret : Option FieldType} {d c n : Nat} {K : Option Value → hH → Prop} {pc : Nat} {L : List (Nat × Value)} {rest : List Value} {h0 : hH} {q k idx t0 N : Nat} {fs : List Value} {al : List (Nat × Nat)} {atype : ArrayType} {ty : FieldType} {z : Int32} (hd1 : decode cc pc = .ok (.newarray atype, 2)) (hd2 : decode cc (pc + 2) = .ok (.putfield idx, 3)) (hf : FP RX10 idx 10 k (.array ty) true) (hw : Cond.arrayClass (newarray.typeOf atype) ∈ tb) (hty : newarray.typeOf atype = ty) (ht : (tys (gA g))[t0]? = some (gA g t0, ty)) (hobj : ∀ C, ty ≠ .object C) (hm : mArr sz0 k = .inl (t0, N, .inl (fun _ => 0))) (hc0 : ∀ cA : ClassId, vp_cell cA (N, .inl (fun _ => 0)) = arrV cA N (fun _ => defaultValue ty)) (hz : ¬ z < 0) (hN : z.toNatClampNeg = N) (hbytes : N * componentBytes ty ≤ 536870912) (h1 : 1 ≤ c) (h2 : N ≤ n) (hk : k < fs.length) (hA : AOk q al)
    (kk : ∀ a : Nat, AOk q (al ++ [(k, a)]) → AW g RX10 cc nL ret "<init>" d (c - 1) (n - N) K (pc + 2 + 3) L rest (iH h0 q (fs.set k (.ref a)) (al ++ [(k, a)]))) : AW g RX10 cc nL ret "<init>" d c n K pc L (.int z :: .ref q :: rest) (iH h0 q fs al) := by
  refine r_newa (a0 := (N, .inl (fun _ => 0))) hd1 hw hty ht hobj hc0 hz hN hbytes h1 h2 (fun a ha => ?_)
  have e := iH_add (k := k) (fs' := fs.set k (.ref a)) ha
  rw [hm] at e
  refine r_putF (ci := 10) (fs := fs) hd2 hf rfl (by rw [hu_ne (Ne.symm e.2.1)]; exact iH_q _ _ _ _) rfl rfl hk ?_
  rw [e.1]
  exact kk a (hA.add e.2.1 e.2.2)
def amL (al : List (Nat × Nat)) (k : Nat) : Nat := match al.find? (fun p => p.1 == k) with
  | some p => p.2
  | none => 0
theorem find_ext {α : Type} {f f' : α → Bool} : ∀ (l : List α), (∀ p ∈ l, f p = f' p) → l.find? f = l.find? f'
  | [], _ => rfl
  | a :: l, h => by
    rw [List.find?_cons, List.find?_cons, h a List.mem_cons_self, find_ext l (fun p hp => h p (List.mem_cons_of_mem _ hp))]
theorem amL_at {al : List (Nat × Nat)} (h : al.map (·.1) = mAr) {p : Nat × Nat} (hp : p ∈ al) : amL al p.1 = p.2 := by
  unfold amL
  cases hf : al.find? (fun r => r.1 == p.1) with
  | none => have := List.find?_eq_none.mp hf p hp; simp at this
  | some r =>
    have h1 : (r.1 == p.1) = true := List.find?_some (p := fun (r : Nat × Nat) => r.1 == p.1) hf
    have h2 := List.mem_of_find?_eq_some hf
    obtain ⟨i, hi⟩ := List.getElem?_of_mem hp
    obtain ⟨j, hj⟩ := List.getElem?_of_mem h2
    have e1 : mAr[i]? = some p.1 := by rw [← h, List.getElem?_map, hi]; rfl
    have e2 : mAr[j]? = some p.1 := by rw [← h, List.getElem?_map, hj]; simp at h1; simp [h1]
    have := va_nd_inj mAr (by decide) i j _ e1 e2
    subst this
    rw [hi] at hj
    cases hj
    rfl
theorem iH_mH {h0 : hH} {q : Nat} {fs : List Value} {al : List (Nat × Nat)} (h : al.map (·.1) = mAr) (hA : AOk q al) (hfs : fs = mFs (amL al) sz0) : iH h0 q fs al = mH (h0, amL al, q) sz0 ∧ MEok (h0, amL al, q) := by
  have hmem : ∀ k ∈ mAr, ∃ p ∈ al, p.1 = k ∧ amL al k = p.2 := by
    intro k hk
    rw [← h] at hk
    obtain ⟨p, hp, e⟩ := List.mem_map.mp hk
    exact ⟨p, hp, e, by rw [← e]; exact amL_at h hp⟩
  refine ⟨funext fun x => ?_, ⟨fun i hi j hj e => ?_, fun i hi => ?_⟩⟩
  · unfold iH mH
    show (if x = q then _ else _) = (if x = q then _ else _)
    split
    · rw [hfs]
    · show _ = (match mAr.find? (fun k => amL al k == x) with | some k => some (mArr sz0 k) | none => h0 x)
      rw [← h, List.find?_map, find_ext (f := (fun k => amL al k == x) ∘ (·.1)) (f' := fun p => p.2 == x) al (fun p hp => by show (amL al p.1 == x) = _; rw [amL_at h hp])]
      cases al.find? (fun p => p.2 == x) <;> rfl
  · obtain ⟨p, hp, e1, e2⟩ := hmem i hi
    obtain ⟨p', hp', e3, e4⟩ := hmem j hj
    obtain ⟨a, ha⟩ := List.getElem?_of_mem hp
    obtain ⟨b, hb⟩ := List.getElem?_of_mem hp'
    have := hA.2 a b p p' ha hb (by rw [← e2, ← e4]; exact e)
    subst this
    rw [ha] at hb
    cases hb
    rw [← e1, ← e3]
  · obtain ⟨p, hp, e1, e2⟩ := hmem i hi
    show amL al i ≠ q
    rw [e2]
    exact hA.1 p hp
theorem sp_in {a i : Int32} (ha : Ct a 72) (hi : Ct i 8) (c : ¬ (8 : Int32) ≤ i) : vp_in (a + i) 960 := by
  obtain ⟨x, hx, rfl⟩ := ha
  obtain ⟨y, hy, rfl⟩ := hi
  rw [nI_add]
  exact vp_in_nI (by omega) (by decide)
theorem ct8 : Ct 8 8 := ⟨8, Nat.le_refl _, rfl⟩

def f_X10_spell_L3 : Nat → MSt → Int32 → Int64 → Int32 → MSt
  | 0, σ, _, _, _ => σ
  | n + 1, σ, l1, l2, l4 => (if (8 : Int32) ≤ l4 then σ else (f_X10_spell_L3 n (ma σ 1 (Int32.toNatClampNeg (l1 + l4)) (Int64.toInt32 ((l2 >>> (Int32.toInt64 ((56 : Int32) - ((8 : Int32) * l4)) &&& 63)) &&& (255 : Int64)))) l1 l2 (l4 + (1 : Int32))))
set_option maxRecDepth 100000 in
set_option maxHeartbeats 1000000 in
theorem lp_X10_spell_3 {g : GC} {E : ME} {d : Nat} {K : Option Value → MSt → Prop} (hE : MEok E) (hd : 0 ≤ d) : ∀ (fuel : Nat) (σ : MSt) (l1 : Int32) (l2 : Int64) (l4 : Int32), Ct l1 72 → Ct l4 8 → 9 - l4.toNatClampNeg < fuel → K none (f_X10_spell_L3 fuel σ l1 l2 l4) → MW g E cX10_spell 5 none "spell" d K 3 [(0, .ref E.2.2), (1, .int l1), (2, .long l2), (4, .int l4)] [] σ := by
  intro fuel
  induction fuel with
  | zero => intro σ l1 l2 l4 i0 i1 hm hK; exact absurd hm (Nat.not_lt_zero _)
  | succ n ih =>
    intro σ l1 l2 l4 i0 i1 hm hK
    refine r_iload dX10_spell_3 rfl ?_
    refine r_bipush (v := (8 : Int32)) dX10_spell_5 (by decide) ?_
    refine r_icmp_ge (tgt := 40) dX10_spell_7 (by decide) (fun c1 => ?_) (fun c1 => ?_)
    · refine r_vret dX10_spell_40 rfl ?_
      exact ⟨_, rfl, by rw [f_X10_spell_L3, if_pos c1] at hK; exact hK⟩
    · refine r_aload_n dX10_spell_10 rfl ?_
      refine m_get dX10_spell_11 fl_RX10_13 rfl ?_
      refine r_iload_n dX10_spell_14 rfl ?_
      refine r_iload dX10_spell_15 rfl ?_
      refine r_iadd dX10_spell_17 ?_
      refine r_lload_n dX10_spell_18 rfl ?_
      refine r_bipush (v := (56 : Int32)) dX10_spell_19 (by decide) ?_
      refine r_bipush (v := (8 : Int32)) dX10_spell_21 (by decide) ?_
      refine r_iload dX10_spell_23 rfl ?_
      refine r_imul dX10_spell_25 ?_
      refine r_isub dX10_spell_26 ?_
      refine r_lshr dX10_spell_27 ?_
      refine r_ldc2 dX10_spell_28 kc_RX10_144 ?_
      refine r_land dX10_spell_31 ?_
      refine r_l2i dX10_spell_32 ?_
      refine m_iast (k := 1) (N := 960) hE (by decide) rfl rfl dX10_spell_33 (by with_reducible exact sp_in i0 i1 (by assumption)) ?_
      refine r_iinc2 (w := (1 : Int32)) dX10_spell_34 rfl (by decide) (by decide) ?_
      refine r_goto (tgt := 3) dX10_spell_37 (by decide) ?_
      refine r_loc (L' := [(0, .ref E.2.2), (1, .int l1), (2, .long l2), (4, .int (l4 + (1 : Int32)))]) [1, 2, 3, 0] rfl ?_
      exact ih (ma σ 1 (Int32.toNatClampNeg (l1 + l4)) (Int64.toInt32 ((l2 >>> (Int32.toInt64 ((56 : Int32) - ((8 : Int32) * l4)) &&& 63)) &&& (255 : Int64))))  l1 l2 (l4 + (1 : Int32)) (by exact i0) (by exact (Ct.up (by decide) ct8 i1 (by with_reducible assumption)).2.1) (by have u := (Ct.up (by decide) ct8 i1 (by with_reducible assumption)).2.2; omega) (by rw [f_X10_spell_L3, if_neg c1] at hK; exact hK)
def f_X10_spell (σ : MSt) (p1 : Int32) (p2 : Int64) : MSt := (f_X10_spell_L3 (10) σ p1 p2 (0 : Int32))
set_option maxRecDepth 100000 in
set_option maxHeartbeats 1000000 in
theorem ok_X10_spell {g : GC} {E : ME} {d : Nat} (hE : MEok E) (hd : 0 ≤ d) (σ : MSt) (p1 : Int32) (p2 : Int64) (h0 : Ct p1 72) : MC g E d yX10_spell cX10_spell 5 none [.int p1, .long p2] (fun v σ' => v = none ∧ σ' = (f_X10_spell σ p1 p2)) σ := by
  refine AM.of2 (own := RX10) (nm := "spell") (L0 := [(0, .ref E.2.2), (1, .int p1), (2, .long p2)]) (by decide) rfl rfl (Nat.le_of_ble_eq_true rfl) rfl ?_
  refine r_iconst (v := (0 : Int32)) dX10_spell_0 (by decide) ?_
  refine r_istore dX10_spell_1 (by decide) ?_
  refine r_loc (L' := [(0, .ref E.2.2), (1, .int p1), (2, .long p2), (4, .int (0 : Int32))]) [1, 2, 3, 0] rfl ?_
  exact lp_X10_spell_3 hE (by omega) (10) σ p1 p2 (0 : Int32) (by exact h0) (by exact Ct.zero _) (by decide) ⟨by rfl, by rw [f_X10_spell]⟩
