/-- the class's numbers: int fields by (kind, number, slot), items of arrays by (kind, number, place); kinds 0 .. 9 are classes (9 the class, 0 Book, 1 Bottle, 2 Image, 3 Ledger, 4 Reader, 5 Rule, 6 Sheet, 7 Tongue, 8 Wine), from 10 on arrays -/
abbrev XSt : Type := (Nat → Nat → Nat → Int32) × (Nat → Nat → Nat → Int32)
/-- its shape: S 0 0 wines, S 0 1 bottles, S 0 2 rules; S 1 i, S 2 i: what wine bottle i is said to be, holds; S 5 i: how long rule i's code is -/
abbrev XSh : Type := Nat → Nat → Nat
abbrev XAd : Type := Nat → Nat → Nat
def lim (S : XSh) : Nat → Nat
  | 0 => 2 | 1 => S 0 1 | 2 => 1 | 3 => 1 | 4 => 1 | 5 => S 0 2 | 6 => 4 | 7 => 6 | 8 => S 0 0 | 9 => 1
  | 10 => 1 | 11 => 1 | 12 => 1 | 13 => 1 | 14 => 1 | 15 => 1 | 16 => 1 | 17 => 1 | 18 => 1
  | 20 => 2 | 21 => 2 | 22 => 2 | 23 => 1 | 24 => 1 | 25 => 1 | 26 => 1 | 27 => 1 | 28 => 1 | 29 => 1 | 30 => 4 | 31 => 1 | 32 => S 0 2
  | _ => 0
/-- the fields of object (c, i) -/
def xF (am : XAd) (S : XSh) (c i : Nat) (f : Nat → Int32) : List Value := match c with
  | 0 => [.ref (am 20 i), .ref (am 21 i), .ref (am 22 i)]
  | 1 => [.int (f 0), .ref (am 8 (S 1 i)), .ref (am 8 (S 2 i)), .int (f 3), .int (f 4), .int (f 5), .int (f 6), .int (f 7), .int (f 8)]
  | 2 => [.ref (am 31 0), .ref (am 0 1), .int (f 2), .int (f 3), .int (f 4)]
  | 3 => [.ref (am 23 0), .ref (am 24 0), .ref (am 25 0), .ref (am 26 0), .ref (am 27 0), .int (f 5)]
  | 4 => [.ref (am 28 0), .ref (am 29 0), .int (f 2), .int (f 3), .int (f 4), .int (f 5), .int (f 6), .int (f 7), .int (f 8)]
  | 5 => [.ref (am 32 i), .int (f 1), .int (f 2)]
  | 6 => [.ref (am 30 i), .int (f 1), .int (f 2)]
  | 7 => [.int (f 0), .int (f 1), .int (f 2), .int (f 3), .int (f 4)]
  | 8 => [.int (f 0), .int (f 1), .int (f 2), .int (f 3), .int (f 4), .int (f 5)]
  | 9 => [.ref (am 10 0), .int (f 1), .ref (am 11 0), .int (f 3), .ref (am 12 0), .int (f 5), .int (f 6), .ref (am 0 0), .ref (am 3 0), .ref (am 4 0), .ref (am 13 0), .ref (am 14 0), .ref (am 2 0), .ref (am 15 0), .ref (am 16 0), .ref (am 17 0), .ref (am 18 0)]
  | _ => []
/-- how long array (c, i) is, which type -/
def xN (S : XSh) (c i : Nat) : Nat := match c with
  | 10 => 8 | 11 => 24 | 12 => 6 | 13 => 6 | 14 => 4 | 15 => 6 | 16 => 160 | 17 => 10 | 18 => 10
  | 20 => 12 | 21 => 12 | 22 => 3 | 23 => 40 | 24 => 40 | 25 => 40 | 26 => 40 | 27 => 40 | 28 => 160 | 29 => 160 | 30 => 40 | 31 => 8 | 32 => S 5 i
  | _ => 0
def xT (c : Nat) : Nat := match c with
  | 10 => 3 | 11 => 4 | 12 => 5 | 13 => 6 | 14 => 7 | 28 => 1 | _ => 0
def xR (am : XAd) (c n : Nat) : Nat → Option Nat := fun j => if j < n then some (am c j) else none
/-- the entry of (c, i) -/
def yE (am : XAd) (S : XSh) (c i : Nat) (f a : Nat → Int32) : hE := match c with
  | 0 => .inr (0, xF am S 0 i f) | 1 => .inr (1, xF am S 1 i f) | 2 => .inr (2, xF am S 2 i f) | 3 => .inr (3, xF am S 3 i f) | 4 => .inr (4, xF am S 4 i f)
  | 5 => .inr (5, xF am S 5 i f) | 6 => .inr (6, xF am S 6 i f) | 7 => .inr (7, xF am S 7 i f) | 8 => .inr (8, xF am S 8 i f) | 9 => .inr (9, xF am S 9 i f)
  | 10 => .inl (3, 8, .inr (.inr (.inr (.inr (xR am 8 (S 0 0))))))
  | 11 => .inl (4, 24, .inr (.inr (.inr (.inr (xR am 1 (S 0 1))))))
  | 12 => .inl (5, 6, .inr (.inr (.inr (.inr (xR am 5 (S 0 2))))))
  | 13 => .inl (6, 6, .inr (.inr (.inr (.inr (xR am 7 6)))))
  | 14 => .inl (7, 4, .inr (.inr (.inr (.inr (xR am 6 4)))))
  | k => .inl (xT k, xN S k i, .inl a)
def xE (am : XAd) (S : XSh) (σ : XSt) (c i : Nat) : hE := yE am S c i (σ.1 c i) (σ.2 c i)
noncomputable def xH (B : hH) (am : XAd) (S : XSh) (σ : XSt) : hH := fun a => @dite _ (∃ n : Nat × Nat, n.2 < lim S n.1 ∧ am n.1 n.2 = a) (Classical.propDecidable _) (fun e => some (xE am S σ (Classical.choose e).1 (Classical.choose e).2)) (fun _ => B a)
def XOk (am : XAd) (S : XSh) : Prop := ∀ c i c' i' : Nat, i < lim S c → i' < lim S c' → am c i = am c' i' → c = c' ∧ i = i'
theorem xH_at {B : hH} {am : XAd} {S : XSh} (hE : XOk am S) (σ : XSt) {c i : Nat} (h : i < lim S c) : xH B am S σ (am c i) = some (xE am S σ c i) := by
  have e : ∃ n : Nat × Nat, n.2 < lim S n.1 ∧ am n.1 n.2 = am c i := ⟨(c, i), h, rfl⟩
  unfold xH
  rw [dif_pos e]
  obtain ⟨e1, e2⟩ := hE _ _ _ _ (Classical.choose_spec e).1 h (Classical.choose_spec e).2
  rw [e1, e2]
theorem xH_out {B : hH} {am : XAd} {S : XSh} {σ : XSt} {a : Nat} (h : ∀ c i, i < lim S c → am c i ≠ a) : xH B am S σ a = B a := by
  unfold xH
  rw [dif_neg (fun ⟨n, h1, h2⟩ => h _ _ h1 h2)]
theorem xH_set {e : hE} {B : hH} {am : XAd} {S : XSh} (hE : XOk am S) {σ σ' : XSt} {c i : Nat} (h : i < lim S c) (h2 : ∀ c' i' : Nat, ¬ (c' = c ∧ i' = i) → xE am S σ' c' i' = xE am S σ c' i') (he : e = xE am S σ' c i) : hu (xH B am S σ) (am c i) e = xH B am S σ' := by
  subst he
  funext a
  by_cases ha : a = am c i
  · subst ha
    rw [hu_eq, xH_at hE σ' h]
  · rw [hu_ne ha]
    by_cases q : ∃ n : Nat × Nat, n.2 < lim S n.1 ∧ am n.1 n.2 = a
    · obtain ⟨⟨c', i'⟩, q1, rfl⟩ := q
      rw [xH_at hE σ q1, xH_at hE σ' q1, h2 c' i' (fun z => ha (by rw [z.1, z.2]))]
    · rw [xH_out (fun c' i' z1 z2 => q ⟨(c', i'), z1, z2⟩), xH_out (fun c' i' z1 z2 => q ⟨(c', i'), z1, z2⟩)]
def up3 (f : Nat → Nat → Nat → Int32) (c i k : Nat) (x : Int32) : Nat → Nat → Nat → Int32 := fun c' i' k' => if c' = c ∧ i' = i ∧ k' = k then x else f c' i' k'
def up3a (f : Nat → Nat → Nat → Int32) (c i : Nat) (a : Nat → Int32) : Nat → Nat → Nat → Int32 := fun c' i' k' => if c' = c ∧ i' = i then a k' else f c' i' k'
/-- one field anew, one item anew, an array anew -/
def xp (σ : XSt) (c i k : Nat) (x : Int32) : XSt := (up3 σ.1 c i k x, σ.2)
def xa (σ : XSt) (c i j : Nat) (x : Int32) : XSt := (σ.1, up3 σ.2 c i j x)
def xb (σ : XSt) (c i : Nat) (a : Nat → Int32) : XSt := (σ.1, up3a σ.2 c i a)
theorem up3_self (f : Nat → Nat → Nat → Int32) (c i k : Nat) (x : Int32) : up3 f c i k x c i = upd (f c i) k x := by
  funext j
  unfold up3 upd
  by_cases h : j = k <;> simp [h]
theorem up3_other (f : Nat → Nat → Nat → Int32) {c i c' i' : Nat} (k : Nat) (x : Int32) (h : ¬ (c' = c ∧ i' = i)) : up3 f c i k x c' i' = f c' i' := by
  funext j
  unfold up3
  rw [if_neg (fun z => h ⟨z.1, z.2.1⟩)]
theorem up3a_self (f : Nat → Nat → Nat → Int32) (c i : Nat) (a : Nat → Int32) : up3a f c i a c i = a := by
  funext j
  unfold up3a
  rw [if_pos ⟨rfl, rfl⟩]
theorem up3a_other (f : Nat → Nat → Nat → Int32) {c i c' i' : Nat} (a : Nat → Int32) (h : ¬ (c' = c ∧ i' = i)) : up3a f c i a c' i' = f c' i' := by
  funext j
  unfold up3a
  rw [if_neg h]
theorem xE_p {am : XAd} {S : XSh} (σ : XSt) {c i : Nat} (k : Nat) (x : Int32) (c' i' : Nat) (h : ¬ (c' = c ∧ i' = i)) : xE am S (xp σ c i k x) c' i' = xE am S σ c' i' := by
  show yE am S c' i' (up3 σ.1 c i k x c' i') (σ.2 c' i') = _
  rw [up3_other _ _ _ h]
  rfl
theorem xE_a {am : XAd} {S : XSh} (σ : XSt) {c i : Nat} (k : Nat) (x : Int32) (c' i' : Nat) (h : ¬ (c' = c ∧ i' = i)) : xE am S (xa σ c i k x) c' i' = xE am S σ c' i' := by
  show yE am S c' i' (σ.1 c' i') (up3 σ.2 c i k x c' i') = _
  rw [up3_other _ _ _ h]
  rfl
theorem xE_b {am : XAd} {S : XSh} (σ : XSt) {c i : Nat} (a : Nat → Int32) (c' i' : Nat) (h : ¬ (c' = c ∧ i' = i)) : xE am S (xb σ c i a) c' i' = xE am S σ c' i' := by
  show yE am S c' i' (σ.1 c' i') (up3a σ.2 c i a c' i') = _
  rw [up3a_other _ _ h]
  rfl
theorem xp_s (σ : XSt) (c i k : Nat) (x : Int32) : (xp σ c i k x).1 c i k = x := by
  show up3 σ.1 c i k x c i k = x
  unfold up3
  rw [if_pos ⟨rfl, rfl, rfl⟩]
theorem xp_o {σ : XSt} {c i k c' i' k' : Nat} {x : Int32} (h : ¬ (c' = c ∧ i' = i ∧ k' = k)) : (xp σ c i k x).1 c' i' k' = σ.1 c' i' k' := by
  show up3 σ.1 c i k x c' i' k' = _
  unfold up3
  rw [if_neg h]
theorem xa_f {σ : XSt} {c i k c' i' k' : Nat} {x : Int32} : (xa σ c i k x).1 c' i' k' = σ.1 c' i' k' := rfl
theorem xb_f {σ : XSt} {c i c' i' k' : Nat} {a : Nat → Int32} : (xb σ c i a).1 c' i' k' = σ.1 c' i' k' := rfl
theorem xp_g {σ : XSt} {c i k c' i' k' : Nat} {x : Int32} : (xp σ c i k x).2 c' i' k' = σ.2 c' i' k' := rfl
theorem xa_o {σ : XSt} {c i k c' i' k' : Nat} {x : Int32} (h : ¬ (c' = c ∧ i' = i)) : (xa σ c i k x).2 c' i' k' = σ.2 c' i' k' := by
  show up3 σ.2 c i k x c' i' k' = _
  rw [up3_other _ _ _ h]
theorem xb_o {σ : XSt} {c i c' i' k' : Nat} {a : Nat → Int32} (h : ¬ (c' = c ∧ i' = i)) : (xb σ c i a).2 c' i' k' = σ.2 c' i' k' := by
  show up3a σ.2 c i a c' i' k' = _
  rw [up3a_other _ _ h]
abbrev XW (g : GC) (B : hH) (am : XAd) (S : XSh) (own : String) (cc : ByteArray) (nL : Nat) (ret : Option FieldType) (nm : String) (d : Nat) (K : Option Value → XSt → Prop) (pc : Nat) (L : List (Nat × Value)) (st : List Value) (σ : XSt) : Prop :=
  AW g own cc nL ret nm d 0 0 (fun v h' => ∃ σ', h' = xH B am S σ' ∧ K v σ') pc L st (xH B am S σ)
abbrev XC (g : GC) (B : hH) (am : XAd) (S : XSh) (d : Nat) (y : MethodName) (cc : ByteArray) (maxL : Nat) (ret : Option FieldType) (args : List Value) (K : Option Value → XSt → Prop) (σ : XSt) : Prop :=
  AM g d 0 0 y cc maxL ret args (xH B am S σ) (fun v h' => ∃ σ', h' = xH B am S σ' ∧ K v σ')
section XR
variable {g : GC} {B : hH} {am : XAd} {S : XSh} {own : String} {cc : ByteArray} {nL : Nat} {ret : Option FieldType} {nm : String} {d : Nat} {K : Option Value → XSt → Prop} {pc : Nat} {L : List (Nat × Value)} {rest : List Value} {σ : XSt}
theorem x_get {c i idx k : Nat} {v : Value} (hE : XOk am S) (hc : ∀ f a, yE am S c i f a = .inr (c, xF am S c i f)) (hd : decode cc pc = .ok (.getfield idx, 3)) (hf : FL own idx c k) (hl : i < lim S c) (hv : (xF am S c i (σ.1 c i))[k]? = some v) (kk : XW g B am S own cc nL ret nm d K (pc + 3) L (v :: rest) σ) : XW g B am S own cc nL ret nm d K pc L (.ref (am c i) :: rest) σ :=
  r_getf hd hf ((xH_at hE σ hl).trans (congrArg some (hc _ _))) hv kk
theorem x_getI {c i idx k : Nat} {x : Int32} (hE : XOk am S) (hc : ∀ f a, yE am S c i f a = .inr (c, xF am S c i f)) (hv : ∀ f, (xF am S c i f)[k]? = some (.int (f k))) (hd : decode cc pc = .ok (.getfield idx, 3)) (hf : FL own idx c k) (hl : i < lim S c) (hx : σ.1 c i k = x) (kk : XW g B am S own cc nL ret nm d K (pc + 3) L (.int x :: rest) σ) : XW g B am S own cc nL ret nm d K pc L (.ref (am c i) :: rest) σ := by
  subst hx
  exact x_get hE hc hd hf hl (hv _) kk
theorem x_put {c i idx k : Nat} {x : Int32} {ty : FieldType} (hE : XOk am S) (hc : ∀ f a, yE am S c i f a = .inr (c, xF am S c i f)) (hd : decode cc pc = .ok (.putfield idx, 3)) (hf : FP own idx c k ty false) (hl : i < lim S c) (hn : narrow ty (.int x) = .int x) (hfit : fits ty (.int x) = true) (hk : ∀ f, k < (xF am S c i f).length) (hs : ∀ f x, (xF am S c i f).set k (.int x) = xF am S c i (upd f k x)) (kk : XW g B am S own cc nL ret nm d K (pc + 3) L rest (xp σ c i k x)) : XW g B am S own cc nL ret nm d K pc L (.int x :: .ref (am c i) :: rest) σ := by
  refine r_putf hd hf ((xH_at hE σ hl).trans (congrArg some (hc _ _))) hn hfit (hk _) ?_
  rw [xH_set hE (σ := σ) (σ' := xp σ c i k x) hl (xE_p σ k x) (by
    show _ = yE am S c i (up3 σ.1 c i k x c i) (σ.2 c i)
    rw [up3_self, hc, hs])]
  exact kk
theorem x_iald {c i N : Nat} {j : Int32} (hE : XOk am S) (hc : ∀ f a, yE am S c i f a = .inl (0, N, .inl a)) (hd : decode cc pc = .ok (.iaload, 1)) (hl : i < lim S c) (hin : vp_in j N) (kk : XW g B am S own cc nL ret nm d K (pc + 1) L (.int (σ.2 c i j.toNatClampNeg) :: rest) σ) : XW g B am S own cc nL ret nm d K pc L (.int j :: .ref (am c i) :: rest) σ :=
  r_iald hd ((xH_at hE σ hl).trans (congrArg some (hc _ _))) hin kk
theorem x_bald {c i N : Nat} {j : Int32} (hE : XOk am S) (hc : ∀ f a, yE am S c i f a = .inl (1, N, .inl a)) (hd : decode cc pc = .ok (.baload, 1)) (hl : i < lim S c) (hin : vp_in j N) (kk : XW g B am S own cc nL ret nm d K (pc + 1) L (.int (σ.2 c i j.toNatClampNeg) :: rest) σ) : XW g B am S own cc nL ret nm d K pc L (.int j :: .ref (am c i) :: rest) σ :=
  r_bald hd ((xH_at hE σ hl).trans (congrArg some (hc _ _))) hin kk
theorem x_ialdV {c i N : Nat} {j x : Int32} (hE : XOk am S) (hc : ∀ f a, yE am S c i f a = .inl (0, N, .inl a)) (hd : decode cc pc = .ok (.iaload, 1)) (hl : i < lim S c) (hin : vp_in j N) (hv : σ.2 c i j.toNatClampNeg = x) (kk : XW g B am S own cc nL ret nm d K (pc + 1) L (.int x :: rest) σ) : XW g B am S own cc nL ret nm d K pc L (.int j :: .ref (am c i) :: rest) σ := by
  subst hv
  exact x_iald hE hc hd hl hin kk
theorem x_baldV {c i N : Nat} {j x : Int32} (hE : XOk am S) (hc : ∀ f a, yE am S c i f a = .inl (1, N, .inl a)) (hd : decode cc pc = .ok (.baload, 1)) (hl : i < lim S c) (hin : vp_in j N) (hv : σ.2 c i j.toNatClampNeg = x) (kk : XW g B am S own cc nL ret nm d K (pc + 1) L (.int x :: rest) σ) : XW g B am S own cc nL ret nm d K pc L (.int j :: .ref (am c i) :: rest) σ := by
  subst hv
  exact x_bald hE hc hd hl hin kk
theorem x_iast {c i N : Nat} {j x : Int32} (hE : XOk am S) (hc : ∀ f a, yE am S c i f a = .inl (0, N, .inl a)) (hd : decode cc pc = .ok (.iastore, 1)) (hl : i < lim S c) (hin : vp_in j N) (kk : XW g B am S own cc nL ret nm d K (pc + 1) L rest (xa σ c i j.toNatClampNeg x)) : XW g B am S own cc nL ret nm d K pc L (.int x :: .int j :: .ref (am c i) :: rest) σ := by
  refine r_iast hd ((xH_at hE σ hl).trans (congrArg some (hc _ _))) hin ?_
  rw [xH_set hE (σ := σ) (σ' := xa σ c i j.toNatClampNeg x) hl (xE_a σ _ x) (by
    show _ = yE am S c i (σ.1 c i) (up3 σ.2 c i j.toNatClampNeg x c i)
    rw [up3_self, hc])]
  exact kk
theorem x_bast {c i N : Nat} {j x : Int32} (hE : XOk am S) (hc : ∀ f a, yE am S c i f a = .inl (1, N, .inl a)) (hd : decode cc pc = .ok (.bastore, 1)) (hl : i < lim S c) (hin : vp_in j N) (kk : XW g B am S own cc nL ret nm d K (pc + 1) L rest (xa σ c i j.toNatClampNeg (vp_nar .byte x))) : XW g B am S own cc nL ret nm d K pc L (.int x :: .int j :: .ref (am c i) :: rest) σ := by
  refine r_bast hd ((xH_at hE σ hl).trans (congrArg some (hc _ _))) hin ?_
  rw [xH_set hE (σ := σ) (σ' := xa σ c i j.toNatClampNeg (vp_nar .byte x)) hl (xE_a σ _ _) (by
    show _ = yE am S c i (σ.1 c i) (up3 σ.2 c i j.toNatClampNeg (vp_nar .byte x) c i)
    rw [up3_self, hc])]
  exact kk
theorem x_alen {c i t0 N : Nat} {x : Int32} {a0 : (Nat → Int32) ⊕ (Nat → Int64) ⊕ (Nat → UInt32) ⊕ (Nat → UInt64) ⊕ (Nat → Option Nat)} {ty : FieldType} (hE : XOk am S) (hc : yE am S c i (σ.1 c i) (σ.2 c i) = .inl (t0, N, a0)) (ht : (tys (gA g))[t0]? = some (gA g t0, ty)) (hd : decode cc pc = .ok (.arraylength, 1)) (hl : i < lim S c) (hx : Int32.ofNat N = x) (kk : XW g B am S own cc nL ret nm d K (pc + 1) L (.int x :: rest) σ) : XW g B am S own cc nL ret nm d K pc L (.ref (am c i) :: rest) σ := by
  subst hx
  exact r_alen hd ((xH_at hE σ hl).trans (congrArg some hc)) ht kk
/-- a reference out of an array of references: kind c2's -/
theorem x_aald {c c2 t0 N n0 : Nat} {j : Int32} {C : String} (hE : XOk am S) (hc : ∀ f a, yE am S c 0 f a = .inl (t0, N, .inr (.inr (.inr (.inr (xR am c2 n0)))))) (hl : 0 < lim S c) (ht : (tys (gA g))[t0]? = some (gA g t0, .object C)) (hd : decode cc pc = .ok (.aaload, 1)) (hin : vp_in j N) (hj : j.toNatClampNeg < n0) (kk : XW g B am S own cc nL ret nm d K (pc + 1) L (.ref (am c2 j.toNatClampNeg) :: rest) σ) : XW g B am S own cc nL ret nm d K pc L (.int j :: .ref (am c 0) :: rest) σ :=
  r_aald hd ((xH_at hE σ hl).trans (congrArg some (hc _ _))) ht hin (v := .ref (am c2 j.toNatClampNeg)) (by unfold xR; rw [if_pos hj]; rfl) kk
theorem x_copy {c i c2 i2 idx N : Nat} {sp dp z : Int32} (hE : XOk am S) (hc : ∀ f a, yE am S c i f a = .inl (0, N, .inl a)) (hc2 : ∀ f a, yE am S c2 i2 f a = .inl (0, N, .inl a)) (hd : decode cc pc = .ok (.invokestatic idx, 3)) (hm : Cond.methodLink own idx arraycopyName ∈ tb) (hn : Cond.native arraycopyName ∈ tb) (hs : Cond.static arraycopyName ∈ tb) (hini : Cond.initialized "java/lang/System" ∈ tb) (hl : i < lim S c) (hl2 : i2 < lim S c2) (c1 : ¬ sp < 0) (c2' : ¬ dp < 0) (c3 : ¬ z < 0) (c4 : sp.toNatClampNeg + z.toNatClampNeg ≤ N) (c5 : dp.toNatClampNeg + z.toNatClampNeg ≤ N) (hcat : (rest.map fun v => v.category).sum ≤ 8) (hd1 : 1 ≤ d)
    (kk : XW g B am S own cc nL ret nm d K (pc + 3) L rest (xb σ c2 i2 (va_cpy (σ.2 c i) (σ.2 c2 i2) sp.toNatClampNeg dp.toNatClampNeg z.toNatClampNeg))) : XW g B am S own cc nL ret nm d K pc L (.int z :: .int dp :: .ref (am c2 i2) :: .int sp :: .ref (am c i) :: rest) σ := by
  refine r_copy hd hm hn hs hini ((xH_at hE σ hl).trans (congrArg some (hc _ _))) ((xH_at hE σ hl2).trans (congrArg some (hc2 _ _))) c1 c2' c3 c4 c5 hcat hd1 ?_
  rw [xH_set hE (σ := σ) (σ' := xb σ c2 i2 (va_cpy (σ.2 c i) (σ.2 c2 i2) sp.toNatClampNeg dp.toNatClampNeg z.toNatClampNeg)) hl2 (xE_b σ _) (by
    show _ = yE am S c2 i2 (σ.1 c2 i2) (up3a σ.2 c2 i2 _ c2 i2)
    rw [up3a_self, hc2])]
  exact kk
theorem x_call {c i : Nat} {y : MethodName} {cy : ByteArray} {maxL k0 idx d1 : Nat} {rt : Option FieldType} {As st0 : List Value} {K1 : Option Value → XSt → Prop} {q : vw_C} (hE : XOk am S) (hc : ∀ f a, yE am S c i f a = .inr (c, xF am S c i f)) (hl : i < lim S c) (hd : decode cc pc = .ok (.invokevirtual idx, 3)) (hm : MV y cy maxL rt k0) (hlk : Cond.methodLink own idx y ∈ tb) (hA : XC g B am S d1 y cy maxL rt (.ref (am c i) :: As) K1 σ) (hcl : vwCl[c]? = some q) (hq : q.1 = y.cls) (hk : As.length = k0) (hst : st0 = As.reverse ++ .ref (am c i) :: rest) (hcat : (rest.map fun v => v.category).sum ≤ 8) (hd1 : d1 + 1 ≤ d)
    (kk : ∀ v σ', K1 v σ' → XW g B am S own cc nL ret nm d K (pc + 3) L (v.toList ++ rest) σ') : XW g B am S own cc nL ret nm d K pc L st0 σ :=
  r_callV hd hm hlk hA ((xH_at hE σ hl).trans (congrArg some (hc _ _))) hcl hq hk hst hcat hd1 (Nat.le_refl 0) (Nat.le_refl 0) (fun v h' ⟨σ', e, hK⟩ => by subst e; exact kk v σ' hK)
theorem x_callW {c i : Nat} {y : MethodName} {cy : ByteArray} {maxL k0 idx d1 : Nat} {rt : Option FieldType} {As st0 : List Value} {r : Value} {σ1 : XSt} {q : vw_C} (hE : XOk am S) (hc : ∀ f a, yE am S c i f a = .inr (c, xF am S c i f)) (hl : i < lim S c) (hd : decode cc pc = .ok (.invokevirtual idx, 3)) (hm : MV y cy maxL rt k0) (hlk : Cond.methodLink own idx y ∈ tb) (hA : XC g B am S d1 y cy maxL rt (.ref (am c i) :: As) (fun v σ' => v = some r ∧ σ' = σ1) σ) (hcl : vwCl[c]? = some q) (hq : q.1 = y.cls) (hk : As.length = k0) (hst : st0 = As.reverse ++ .ref (am c i) :: rest) (hcat : (rest.map fun v => v.category).sum ≤ 8) (hd1 : d1 + 1 ≤ d)
    (kk : XW g B am S own cc nL ret nm d K (pc + 3) L (r :: rest) σ1) : XW g B am S own cc nL ret nm d K pc L st0 σ :=
  x_call hE hc hl hd hm hlk hA hcl hq hk hst hcat hd1 (fun v σ' hh => by obtain ⟨e1, e2⟩ := hh; subst e1; subst e2; exact kk)
theorem x_callV0 {c i : Nat} {y : MethodName} {cy : ByteArray} {maxL k0 idx d1 : Nat} {rt : Option FieldType} {As st0 : List Value} {σ1 : XSt} {q : vw_C} (hE : XOk am S) (hc : ∀ f a, yE am S c i f a = .inr (c, xF am S c i f)) (hl : i < lim S c) (hd : decode cc pc = .ok (.invokevirtual idx, 3)) (hm : MV y cy maxL rt k0) (hlk : Cond.methodLink own idx y ∈ tb) (hA : XC g B am S d1 y cy maxL rt (.ref (am c i) :: As) (fun v σ' => v = none ∧ σ' = σ1) σ) (hcl : vwCl[c]? = some q) (hq : q.1 = y.cls) (hk : As.length = k0) (hst : st0 = As.reverse ++ .ref (am c i) :: rest) (hcat : (rest.map fun v => v.category).sum ≤ 8) (hd1 : d1 + 1 ≤ d)
    (kk : XW g B am S own cc nL ret nm d K (pc + 3) L rest σ1) : XW g B am S own cc nL ret nm d K pc L st0 σ :=
  x_call hE hc hl hd hm hlk hA hcl hq hk hst hcat hd1 (fun v σ' hh => by obtain ⟨e1, e2⟩ := hh; subst e1; subst e2; exact kk)
theorem x_callS {y : MethodName} {cy : ByteArray} {maxL k0 idx d1 : Nat} {rt : Option FieldType} {As st0 : List Value} {r : Value} {σ1 : XSt} (hd : decode cc pc = .ok (.invokestatic idx, 3)) (hm : MS y cy maxL rt k0) (hl : Cond.methodLink own idx y ∈ tb) (hA : XC g B am S d1 y cy maxL rt As (fun v σ' => v = some r ∧ σ' = σ1) σ) (hk : As.length = k0) (hst : st0 = As.reverse ++ rest) (hcat : (rest.map fun v => v.category).sum ≤ 8) (hd1 : d1 + 1 ≤ d)
    (kk : XW g B am S own cc nL ret nm d K (pc + 3) L (r :: rest) σ1) : XW g B am S own cc nL ret nm d K pc L st0 σ :=
  r_callS hd hm hl hA hk hst hcat hd1 (Nat.le_refl 0) (Nat.le_refl 0) (fun v h' ⟨σ', e, e1, e2⟩ => by subst e1; subst e2; subst e; exact kk)
end XR
section R6
variable {g : GC} {own : String} {cc : ByteArray} {nL : Nat} {ret : Option FieldType} {nm : String} {d c n : Nat} {K : Option Value → hH → Prop} {pc : Nat} {L : List (Nat × Value)} {rest : List Value} {h : hH}
theorem r_callSN0 {y : MethodName} {cy : ByteArray} {maxL k0 idx d1 : Nat} {host : String} {rt : Option FieldType} {As st0 : List Value} {r : Value} (hd : decode cc pc = .ok (.invokestatic idx, 3)) (hm : MS y cy maxL rt k0) (hl : ∀ s, gR g s → va_Nw (.methodLinkNest own idx y host) s) (hA : AM g d1 0 0 y cy maxL rt As h (fun v h' => v = some r ∧ h' = h)) (hk : As.length = k0) (hst : st0 = As.reverse ++ rest) (hcat : (rest.map fun v => v.category).sum ≤ 8) (hd1 : d1 + 1 ≤ d)
    (kk : AW g own cc nL ret nm d c n K (pc + 3) L (r :: rest) h) : AW g own cc nL ret nm d c n K pc L st0 h :=
  r_callSN hd hm hl hA hk hst hcat hd1 (Nat.zero_le _) (Nat.zero_le _) (fun v h' hh => by obtain ⟨e1, e2⟩ := hh; subst e1; subst e2; exact kk)
end R6
