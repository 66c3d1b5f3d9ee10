/-- the reference's state: its int fields by their slots, tokenWorth, its arrays by their slots -/
abbrev MSt : Type := (Nat → Int32) × Int64 × (Nat → Nat → Int32)
def mAr : List Nat := [1, 2, 5, 7, 8, 9, 10, 11, 13, 14, 15, 16, 17, 18, 19, 21, 22, 23, 24, 25, 42, 43, 44, 45, 46, 47, 48, 49, 50, 51, 56, 57, 58, 59]
def mLen : Nat → Nat
  | 1 => 960 | 2 => 6 | 5 => 160 | 7 => 8 | 8 => 8 | 9 => 8 | 10 => 8 | 11 => 8 | 13 => 12 | 14 => 12 | 15 => 3 | 16 => 24 | 17 => 24 | 18 => 24 | 19 => 24
  | 21 => 40 | 22 => 40 | 23 => 40 | 24 => 40 | 25 => 40 | 42 => 6 | 43 => 72 | 44 => 72 | 45 => 72 | 46 => 10 | 47 => 10 | 48 => 8 | 49 => 12 | 50 => 12 | 51 => 3
  | 56 => 4 | 57 => 4 | 58 => 4 | 59 => 160 | _ => 0
def mTy (k : Nat) : Nat := if k = 56 then 2 else 0
def mFs (am : Nat → Nat) (σ : MSt) : List Value := [.int (σ.1 0), .ref (am 1), .ref (am 2), .int (σ.1 3), .int (σ.1 4), .ref (am 5), .int (σ.1 6), .ref (am 7), .ref (am 8), .ref (am 9), .ref (am 10), .ref (am 11), .int (σ.1 12), .ref (am 13), .ref (am 14), .ref (am 15), .ref (am 16), .ref (am 17), .ref (am 18), .ref (am 19), .int (σ.1 20), .ref (am 21), .ref (am 22), .ref (am 23), .ref (am 24), .ref (am 25), .int (σ.1 26), .int (σ.1 27), .int (σ.1 28), .int (σ.1 29), .int (σ.1 30), .long σ.2.1, .int (σ.1 32), .int (σ.1 33), .int (σ.1 34), .int (σ.1 35), .int (σ.1 36), .int (σ.1 37), .int (σ.1 38), .int (σ.1 39), .int (σ.1 40), .int (σ.1 41), .ref (am 42), .ref (am 43), .ref (am 44), .ref (am 45), .ref (am 46), .ref (am 47), .ref (am 48), .ref (am 49), .ref (am 50), .ref (am 51), .int (σ.1 52), .int (σ.1 53), .int (σ.1 54), .int (σ.1 55), .ref (am 56), .ref (am 57), .ref (am 58), .ref (am 59)]
/-- where the reference lies, and the heap beside it -/
abbrev ME : Type := hH × (Nat → Nat) × Nat
def mArr (σ : MSt) (k : Nat) : hE := .inl (mTy k, mLen k, .inl (σ.2.2 k))
def mH (E : ME) (σ : MSt) : hH := fun a => if a = E.2.2 then some (.inr (10, mFs E.2.1 σ)) else match mAr.find? (fun k => E.2.1 k == a) with
  | some k => some (mArr σ k)
  | none => E.1 a
def MEok (E : ME) : Prop := (∀ i ∈ mAr, ∀ j ∈ mAr, E.2.1 i = E.2.1 j → i = j) ∧ ∀ i ∈ mAr, E.2.1 i ≠ E.2.2
theorem mH_this (E : ME) (σ : MSt) : mH E σ E.2.2 = some (.inr (10, mFs E.2.1 σ)) := if_pos rfl
theorem m_find {E : ME} (hE : MEok E) {k : Nat} (hk : k ∈ mAr) : mAr.find? (fun j => E.2.1 j == E.2.1 k) = some k := by
  cases hf : mAr.find? (fun j => E.2.1 j == E.2.1 k) with
  | none =>
    have h1 := List.find?_eq_none.mp hf k hk
    simp at h1
  | some j =>
    have h1 : (E.2.1 j == E.2.1 k) = true := List.find?_some (p := fun j => E.2.1 j == E.2.1 k) hf
    have h2 := List.mem_of_find?_eq_some hf
    rw [hE.1 j h2 k hk (by simpa using h1)]
theorem mH_arr {E : ME} (hE : MEok E) (σ : MSt) {k : Nat} (hk : k ∈ mAr) : mH E σ (E.2.1 k) = some (mArr σ k) := by
  unfold mH
  rw [if_neg (hE.2 k hk), m_find hE hk]
theorem mH_put {E : ME} (hE : MEok E) {σ σ' : MSt} (h : ∀ k ∈ mAr, σ'.2.2 k = σ.2.2 k) : hu (mH E σ) E.2.2 (.inr (10, mFs E.2.1 σ')) = mH E σ' := by
  funext a
  by_cases ha : a = E.2.2
  · subst ha
    rw [hu_eq, mH_this]
  · rw [hu_ne ha]
    unfold mH
    rw [if_neg ha, if_neg ha]
    cases hf : mAr.find? (fun j => E.2.1 j == a) with
    | none => rfl
    | some j =>
      have h2 := List.mem_of_find?_eq_some hf
      simp only [mArr, h j h2]
theorem mH_set {E : ME} (hE : MEok E) {σ σ' : MSt} {k : Nat} (hk : k ∈ mAr) (h1 : σ'.1 = σ.1) (h2 : σ'.2.1 = σ.2.1) (h : ∀ j ∈ mAr, j ≠ k → σ'.2.2 j = σ.2.2 j) : hu (mH E σ) (E.2.1 k) (mArr σ' k) = mH E σ' := by
  funext a
  by_cases ha : a = E.2.1 k
  · subst ha
    rw [hu_eq, mH_arr hE σ' hk]
  · rw [hu_ne ha]
    unfold mH
    by_cases hb : a = E.2.2
    · rw [if_pos hb, if_pos hb]
      simp only [mFs, h1, h2]
    · rw [if_neg hb, if_neg hb]
      cases hf : mAr.find? (fun j => E.2.1 j == a) with
      | none => rfl
      | some j =>
        have h3 := List.mem_of_find?_eq_some hf
        have h4 : (E.2.1 j == a) = true := List.find?_some (p := fun j => E.2.1 j == a) hf
        have h5 : j ≠ k := fun z => ha (by rw [← z]; exact (by simpa using h4 : E.2.1 j = a).symm)
        simp only [mArr, h j h3 h5]
/-- one field anew, one item anew -/
def mp (σ : MSt) (k : Nat) (x : Int32) : MSt := (upd σ.1 k x, σ.2.1, σ.2.2)
def ml (σ : MSt) (x : Int64) : MSt := (σ.1, x, σ.2.2)
def ma (σ : MSt) (k i : Nat) (x : Int32) : MSt := (σ.1, σ.2.1, fun j => if j = k then upd (σ.2.2 k) i x else σ.2.2 j)
abbrev MW (g : GC) (E : ME) (cc : ByteArray) (nL : Nat) (ret : Option FieldType) (nm : String) (d : Nat) (K : Option Value → MSt → Prop) (pc : Nat) (L : List (Nat × Value)) (st : List Value) (σ : MSt) : Prop :=
  AW g RX10 cc nL ret nm d 0 0 (fun v h' => ∃ σ', h' = mH E σ' ∧ K v σ') pc L st (mH E σ)
abbrev MC (g : GC) (E : ME) (d : Nat) (y : MethodName) (cc : ByteArray) (maxL : Nat) (ret : Option FieldType) (args : List Value) (K : Option Value → MSt → Prop) (σ : MSt) : Prop :=
  AM g d 0 0 y cc maxL ret (.ref E.2.2 :: args) (mH E σ) (fun v h' => ∃ σ', h' = mH E σ' ∧ K v σ')
section MR
variable {g : GC} {E : ME} {cc : ByteArray} {nL : Nat} {ret : Option FieldType} {nm : String} {d : Nat} {K : Option Value → MSt → Prop} {pc : Nat} {L : List (Nat × Value)} {rest : List Value} {σ : MSt}
theorem m_get {idx k : Nat} {v : Value} (hd : decode cc pc = .ok (.getfield idx, 3)) (hf : FL RX10 idx 10 k) (hv : (mFs E.2.1 σ)[k]? = some v) (kk : MW g E cc nL ret nm d K (pc + 3) L (v :: rest) σ) : MW g E cc nL ret nm d K pc L (.ref E.2.2 :: rest) σ := r_getf hd hf (mH_this E σ) hv kk
theorem m_put {idx k : Nat} {x : Int32} {ty : FieldType} (hE : MEok E) (hd : decode cc pc = .ok (.putfield idx, 3)) (hf : FP RX10 idx 10 k ty false) (hn : narrow ty (.int x) = .int x) (hfit : fits ty (.int x) = true) (hs : (mFs E.2.1 σ).set k (.int x) = mFs E.2.1 (mp σ k x)) (hk : k < 60) (kk : MW g E cc nL ret nm d K (pc + 3) L rest (mp σ k x)) : MW g E cc nL ret nm d K pc L (.int x :: .ref E.2.2 :: rest) σ := by
  refine r_putf hd hf (mH_this E σ) hn hfit hk ?_
  rw [hs, mH_put (σ := σ) (σ' := mp σ k x) hE (fun _ _ => rfl)]
  exact kk
theorem m_putJ {idx : Nat} {x : Int64} (hE : MEok E) (hd : decode cc pc = .ok (.putfield idx, 3)) (hf : FP RX10 idx 10 31 .long false) (kk : MW g E cc nL ret nm d K (pc + 3) L rest (ml σ x)) : MW g E cc nL ret nm d K pc L (.long x :: .ref E.2.2 :: rest) σ := by
  refine r_putf hd hf (mH_this E σ) rfl rfl (by show 31 < 60; decide) ?_
  rw [show (mFs E.2.1 σ).set 31 (.long x) = mFs E.2.1 (ml σ x) from rfl, mH_put (σ := σ) (σ' := ml σ x) hE (fun _ _ => rfl)]
  exact kk
theorem m_iald {k N : Nat} {i : Int32} (hE : MEok E) (hk : k ∈ mAr) (hk2 : mTy k = 0) (hN : mLen k = N) (hd : decode cc pc = .ok (.iaload, 1)) (hin : vp_in i N) (kk : MW g E cc nL ret nm d K (pc + 1) L (.int (σ.2.2 k i.toNatClampNeg) :: rest) σ) : MW g E cc nL ret nm d K pc L (.int i :: .ref (E.2.1 k) :: rest) σ := by
  subst hN
  refine r_iald hd ?_ hin kk
  rw [mH_arr hE σ hk]
  unfold mArr
  rw [hk2]
theorem m_zald {i : Int32} (hE : MEok E) (hd : decode cc pc = .ok (.baload, 1)) (hin : vp_in i 4) (kk : MW g E cc nL ret nm d K (pc + 1) L (.int (σ.2.2 56 i.toNatClampNeg) :: rest) σ) : MW g E cc nL ret nm d K pc L (.int i :: .ref (E.2.1 56) :: rest) σ :=
  r_zald hd (mH_arr hE σ (k := 56) (by decide)) hin kk
theorem m_iast {k N : Nat} {i x : Int32} (hE : MEok E) (hk : k ∈ mAr) (hk2 : mTy k = 0) (hN : mLen k = N) (hd : decode cc pc = .ok (.iastore, 1)) (hin : vp_in i N) (kk : MW g E cc nL ret nm d K (pc + 1) L rest (ma σ k i.toNatClampNeg x)) : MW g E cc nL ret nm d K pc L (.int x :: .int i :: .ref (E.2.1 k) :: rest) σ := by
  subst hN
  refine r_iast (N := mLen k) (f := σ.2.2 k) hd ?_ hin ?_
  · rw [mH_arr hE σ hk]
    unfold mArr
    rw [hk2]
  · have e := mH_set hE (σ := σ) (σ' := ma σ k i.toNatClampNeg x) hk rfl rfl (fun j _ hj => if_neg hj)
    have e2 : mArr (ma σ k i.toNatClampNeg x) k = .inl (0, mLen k, .inl (upd (σ.2.2 k) i.toNatClampNeg x)) := by
      unfold mArr ma
      rw [hk2]
      simp
    rw [e2] at e
    rw [e]
    exact kk
theorem m_zast {i x : Int32} (hE : MEok E) (hd : decode cc pc = .ok (.bastore, 1)) (hin : vp_in i 4) (hx : vp_nar .boolean x = x) (kk : MW g E cc nL ret nm d K (pc + 1) L rest (ma σ 56 i.toNatClampNeg x)) : MW g E cc nL ret nm d K pc L (.int x :: .int i :: .ref (E.2.1 56) :: rest) σ := by
  refine r_zast (N := 4) (f := σ.2.2 56) hd (mH_arr hE σ (k := 56) (by decide)) hin ?_
  have e := mH_set hE (σ := σ) (σ' := ma σ 56 i.toNatClampNeg x) (k := 56) (by decide) rfl rfl (fun j _ hj => if_neg hj)
  have e2 : mArr (ma σ 56 i.toNatClampNeg x) 56 = .inl (2, 4, .inl (upd (σ.2.2 56) i.toNatClampNeg x)) := by
    unfold mArr ma
    simp [mTy, mLen]
  rw [e2] at e
  rw [hx, e]
  exact kk
theorem m_call {y : MethodName} {cy : ByteArray} {maxL k0 idx d1 : Nat} {rt : Option FieldType} {As st0 : List Value} {K1 : Option Value → MSt → Prop} (hd : decode cc pc = .ok (.invokevirtual idx, 3)) (hm : MV y cy maxL rt k0) (hl : Cond.methodLink RX10 idx y ∈ tb) (hA : MC g E d1 y cy maxL rt As K1 σ) (hq : RX10 = y.cls) (hk : As.length = k0) (hst : st0 = As.reverse ++ .ref E.2.2 :: rest) (hcat : (rest.map fun v => v.category).sum ≤ 8) (hd1 : d1 + 1 ≤ d)
    (kk : ∀ v σ', K1 v σ' → MW g E cc nL ret nm d K (pc + 3) L (v.toList ++ rest) σ') : MW g E cc nL ret nm d K pc L st0 σ :=
  r_callV hd hm hl hA (mH_this E σ) rfl hq hk hst hcat hd1 (Nat.le_refl 0) (Nat.le_refl 0) (fun v h' ⟨σ', e, hK⟩ => by subst e; exact kk v σ' hK)
theorem m_callS {y : MethodName} {cy : ByteArray} {maxL k0 idx d1 : Nat} {rt : Option FieldType} {As st0 : List Value} {r : Value} (hd : decode cc pc = .ok (.invokestatic idx, 3)) (hm : MS y cy maxL rt k0) (hl : Cond.methodLink RX10 idx y ∈ tb) (hA : AM g d1 0 0 y cy maxL rt As (mH E σ) (fun v h' => v = some r ∧ h' = mH E σ)) (hk : As.length = k0) (hst : st0 = As.reverse ++ rest) (hcat : (rest.map fun v => v.category).sum ≤ 8) (hd1 : d1 + 1 ≤ d)
    (kk : MW g E cc nL ret nm d K (pc + 3) L (r :: rest) σ) : MW g E cc nL ret nm d K pc L st0 σ :=
  r_callS hd hm hl hA hk hst hcat hd1 (Nat.le_refl 0) (Nat.le_refl 0) (fun v h' hh => by obtain ⟨e1, e2⟩ := hh; subst e1; subst e2; exact kk)
end MR
section R3
variable {g : GC} {own : String} {cc : ByteArray} {nL : Nat} {ret : Option FieldType} {nm : String} {d c n : Nat} {K : Option Value → hH → Prop} {pc : Nat} {L : List (Nat × Value)} {rest : List Value} {h : hH}
theorem AM.of2 {y : MethodName} {maxL : Nat} {args0 : List Value} {L0 : List (Nat × Value)} (hy : plainName y.cls = true) (ho : y.cls = own) (hn : y.name = nm) (hl0 : (lg_sl args0).length ≤ maxL) (hL : lv_args 0 args0 = L0) (k : AW g own cc maxL ret nm d c n K 0 L0 [] h) : AM g d c n y cc maxL ret args0 h K := by
  subst ho; subst hn
  exact AM.of hy hl0 hL k
theorem r_iinc2 {i : Nat} {z : Int} {x w : Int32} (hd : decode cc pc = .ok (.iinc i z, 3)) (hx : lk L i = some (.int x)) (hv : Int32.ofInt z = w) (hn : i < nL) (k : AW g own cc nL ret nm d c n K (pc + 3) (st1 L i (.int (x + w))) rest h) : AW g own cc nL ret nm d c n K pc L rest h := r_iinc hd hx (by rw [hv]) hn k
theorem r_callS0 {y : MethodName} {cy : ByteArray} {maxL k0 idx d1 : Nat} {rt : Option FieldType} {As st0 : List Value} {r : Value} (hd : decode cc pc = .ok (.invokestatic idx, 3)) (hm : MS y cy maxL rt k0) (hl : Cond.methodLink own idx y ∈ tb) (hA : AM g d1 0 0 y cy maxL rt As h (fun v h' => v = some r ∧ h' = h)) (hk : As.length = k0) (hst : st0 = As.reverse ++ rest) (hcat : (rest.map fun v => v.category).sum ≤ 8) (hd1 : d1 + 1 ≤ d)
    (kk : AW g own cc nL ret nm d c n K (pc + 3) L (r :: rest) h) : AW g own cc nL ret nm d c n K pc L st0 h :=
  r_callS hd hm hl hA hk hst hcat hd1 (Nat.zero_le _) (Nat.zero_le _) (fun v h' hh => by obtain ⟨e1, e2⟩ := hh; subst e1; subst e2; exact kk)
theorem r_tabK {dflt lo hi : Int} {offs : Array Int} {len : Nat} {x v : Int32} {off : Int} {tgt : Nat} (hd : decode cc pc = .ok (.tableswitch dflt lo hi offs, len)) (hx : x = v) (h1 : ¬ v.toInt < lo) (h2 : ¬ hi < v.toInt) (ho : offs[(v.toInt - lo).toNat]? = some off) (ht : (pc : Int) + off = (tgt : Int)) (k : AW g own cc nL ret nm d c n K tgt L rest h) : AW g own cc nL ret nm d c n K pc L (.int x :: rest) h := by
  subst hx
  exact r_tabIn hd h1 h2 ho ht k
theorem ne_toInt {x v : Int32} (h : ¬ x = v) : x.toInt ≠ v.toInt := fun e => h (Int32.toInt_inj.mp e)
end R3
section MR2
variable {g : GC} {E : ME} {cc : ByteArray} {nL : Nat} {ret : Option FieldType} {nm : String} {d : Nat} {K : Option Value → MSt → Prop} {pc : Nat} {L : List (Nat × Value)} {rest : List Value} {σ : MSt}
/-- a callee's answer, and the state that it leaves -/
theorem m_callW {y : MethodName} {cy : ByteArray} {maxL k0 idx d1 : Nat} {rt : Option FieldType} {As st0 : List Value} {r : Value} {σ1 : MSt} (hd : decode cc pc = .ok (.invokevirtual idx, 3)) (hm : MV y cy maxL rt k0) (hl : Cond.methodLink RX10 idx y ∈ tb) (hA : MC g E d1 y cy maxL rt As (fun v σ' => v = some r ∧ σ' = σ1) σ) (hq : RX10 = y.cls) (hk : As.length = k0) (hst : st0 = As.reverse ++ .ref E.2.2 :: rest) (hcat : (rest.map fun v => v.category).sum ≤ 8) (hd1 : d1 + 1 ≤ d)
    (kk : MW g E cc nL ret nm d K (pc + 3) L (r :: rest) σ1) : MW g E cc nL ret nm d K pc L st0 σ :=
  m_call hd hm hl hA hq hk hst hcat hd1 (fun v σ' hh => by obtain ⟨e1, e2⟩ := hh; subst e1; subst e2; exact kk)
theorem m_callV0 {y : MethodName} {cy : ByteArray} {maxL k0 idx d1 : Nat} {rt : Option FieldType} {As st0 : List Value} {σ1 : MSt} (hd : decode cc pc = .ok (.invokevirtual idx, 3)) (hm : MV y cy maxL rt k0) (hl : Cond.methodLink RX10 idx y ∈ tb) (hA : MC g E d1 y cy maxL rt As (fun v σ' => v = none ∧ σ' = σ1) σ) (hq : RX10 = y.cls) (hk : As.length = k0) (hst : st0 = As.reverse ++ .ref E.2.2 :: rest) (hcat : (rest.map fun v => v.category).sum ≤ 8) (hd1 : d1 + 1 ≤ d)
    (kk : MW g E cc nL ret nm d K (pc + 3) L rest σ1) : MW g E cc nL ret nm d K pc L st0 σ :=
  m_call hd hm hl hA hq hk hst hcat hd1 (fun v σ' hh => by obtain ⟨e1, e2⟩ := hh; subst e1; subst e2; exact kk)
end MR2
section R4
variable {g : GC} {own : String} {cc : ByteArray} {nL : Nat} {ret : Option FieldType} {nm : String} {d c n : Nat} {K : Option Value → hH → Prop} {pc : Nat} {L L' : List (Nat × Value)} {st : List Value} {h : hH}
theorem r_loc (ks : List Nat) (hl : lv_pick L ks = L') (k : AW g own cc nL ret nm d c n K pc L' st h) : AW g own cc nL ret nm d c n K pc L st h :=
  fun p e s m args below meth c1 H locs cells slots mc ms R ls X hH hS hl' => k p e s m args below meth c1 H locs cells slots mc ms R ls X hH hS (lv_sub hl' ks hl)
end R4
