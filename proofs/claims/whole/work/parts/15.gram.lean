/-! the tokens and the grammar of a text, by themselves -/
abbrev TB : Type := (Nat → Int32) × Nat
def runN (t : TB) (P : Int32 → Bool) : Nat → Nat → Nat
  | 0, k => k
  | n + 1, k => if k < t.2 ∧ P (t.1 k) = true then runN t P n (k + 1) else k
def isBl (c : Int32) : Bool := decide (c = 32) || decide (c = 10)
def isLe (c : Int32) : Bool := decide (97 ≤ c) && decide (c ≤ 122)
def isDi (c : Int32) : Bool := decide (48 ≤ c) && decide (c ≤ 57)
def isSg (c : Int32) : Bool := decide (c = 40) || decide (c = 41) || decide (c = 59) || decide (c = 43) || decide (c = 45) || decide (c = 42) || decide (c = 60) || decide (c = 61)
def wh (b : Nat → Int32) (k : Nat) : Nat → Int64
  | 0 => 0
  | n + 1 => if n < 8 then 27 * wh b k n + (b (k + n)).toInt64 - 96 else -1
def nv (b : Nat → Int32) (k : Nat) : Nat → Int64
  | 0 => 0
  | n + 1 => if n < 4 then 10 * nv b k n + (b (k + n)).toInt64 - 48 else nv b k n
/-- kind (0 end, 1 word, 2 number, 3 sign, 4 wrong), place, worth, place behind -/
abbrev Tk : Type := Int32 × Nat × Int64 × Nat
def tkA (t : TB) (a : Nat) : Tk :=
  if a < t.2 then
    if isLe (t.1 a) = true then (1, a, wh t.1 a (runN t isLe 162 a - a), runN t isLe 162 a)
    else if isDi (t.1 a) = true then ((if 4 < runN t isDi 162 a - a then 4 else 2), a, nv t.1 a (runN t isDi 162 a - a), runN t isDi 162 a)
    else if isSg (t.1 a) = true then (3, a, (t.1 a).toInt64, a + 1)
    else (4, a, 0, a)
  else (0, t.2, 0, a)
def tk (t : TB) (k : Nat) : Tk := tkA t (runN t isBl 162 k)
theorem runN_ge (t : TB) (P : Int32 → Bool) : ∀ n k, k ≤ runN t P n k
  | 0, k => Nat.le_refl k
  | n + 1, k => by
    unfold runN
    split
    · exact Nat.le_trans (Nat.le_succ k) (runN_ge t P n (k + 1))
    · exact Nat.le_refl k
theorem runN_le (t : TB) (P : Int32 → Bool) : ∀ n k, k ≤ t.2 → runN t P n k ≤ t.2
  | 0, k, h => h
  | n + 1, k, h => by
    unfold runN
    split
    · next q => exact runN_le t P n (k + 1) q.1
    · exact h
theorem runN_gt (t : TB) (P : Int32 → Bool) (n k : Nat) (h : k < t.2) (hp : P (t.1 k) = true) : k < runN t P (n + 1) k := by
  unfold runN
  rw [if_pos ⟨h, hp⟩]
  exact runN_ge t P n (k + 1)
theorem tkA_le (t : TB) (a : Nat) (h : a ≤ t.2) : (tkA t a).2.1 ≤ t.2 ∧ (tkA t a).2.2.2 ≤ t.2 ∧ a ≤ (tkA t a).2.2.2 := by
  unfold tkA
  split
  · split
    · exact ⟨h, runN_le t _ _ _ h, runN_ge t _ _ _⟩
    · split
      · exact ⟨h, runN_le t _ _ _ h, runN_ge t _ _ _⟩
      · split
        · next q _ _ _ => exact ⟨h, q, Nat.le_succ a⟩
        · exact ⟨h, h, Nat.le_refl a⟩
  · exact ⟨Nat.le_refl _, h, Nat.le_refl a⟩
theorem tk_le (t : TB) (k : Nat) (h : k ≤ t.2) : (tk t k).2.1 ≤ t.2 ∧ (tk t k).2.2.2 ≤ t.2 ∧ k ≤ (tk t k).2.2.2 := by
  have h1 := tkA_le t _ (runN_le t isBl 162 k h)
  exact ⟨h1.1, h1.2.1, Nat.le_trans (runN_ge t isBl 162 k) h1.2.2⟩
/-- behind a word or a sign it goes on -/
theorem tk_gt (t : TB) (k : Nat) (h : k ≤ t.2) (hk : (tk t k).1 = 1 ∨ (tk t k).1 = 3) : k < (tk t k).2.2.2 := by
  have h1 := runN_ge t isBl 162 k
  unfold tk at hk ⊢
  generalize runN t isBl 162 k = a at h1 hk ⊢
  unfold tkA at hk ⊢
  split
  · next q =>
    rw [if_pos q] at hk
    split
    · next q1 => exact Nat.lt_of_le_of_lt h1 (runN_gt t isLe 161 a q q1)
    · next q1 =>
      rw [if_neg q1] at hk
      split
      · next q2 => exact Nat.lt_of_le_of_lt h1 (runN_gt t isDi 161 a q q2)
      · next q2 =>
        rw [if_neg q2] at hk
        split
        · exact Nat.lt_succ_of_le h1
        · next q3 => rw [if_neg q3] at hk; rcases hk with z | z <;> exact absurd z (by decide : ¬ (4 : Int32) = _)
  · next q => rw [if_neg q] at hk; rcases hk with z | z <;> exact absurd z (by decide : ¬ (0 : Int32) = _)
abbrev Ev : Type := (Nat → Int32) → Int32
abbrev Rs : Type := Except Nat (List Int32 × Ev × Nat)
def isS (T : Tk) (c : Int64) : Prop := T.1 = 3 ∧ T.2.2.1 = c
def isW (T : Tk) (w : Int64) : Prop := T.1 = 1 ∧ T.2.2.1 = w
theorem isS_dec (T : Tk) (c : Int64) : isS T c ∨ ¬ isS T c := Classical.em _
def nameIx (w : Int64) : Option Nat := if w = 40600 then some 0 else if w = 11047 then some 1 else if w = 5146 then some 2 else if w = 495765 then some 3 else if w = 256721 then some 4 else if w = 385240 then some 5 else none
/-- two values joined by a sign's code -/
def jn (k a b : Int32) : Int32 := if k = -9 then (if a ≠ 0 ∨ b ≠ 0 then 1 else 0) else if k = -10 then (if a ≠ 0 ∧ b ≠ 0 then 1 else 0) else if k = -60 then (if a < b then 1 else 0) else if k = -61 then (if a = b then 1 else 0) else if k = -43 then a + b else if k = -45 then a - b else a * b
def oneG (t : TB) (al : Bool) (rO rE : Nat → Rs) (p : Nat) : Rs :=
  if (tk t p).1 = 3 ∧ (tk t p).2.2.1 = 45 then
    if al = true then (match rO (tk t p).2.2.2 with
      | .ok r => .ok (r.1 ++ [-100], (fun v => - r.2.1 v), r.2.2)
      | .error x => .error x)
    else .error (tk t p).2.1
  else if (tk t p).1 = 3 ∧ (tk t p).2.2.1 = 40 then
    if al = true then (match rE (tk t p).2.2.2 with
      | .ok r => if (tk t r.2.2).1 = 3 ∧ (tk t r.2.2).2.2.1 = 41 then .ok (r.1, r.2.1, (tk t r.2.2).2.2.2) else .error (tk t r.2.2).2.1
      | .error x => .error x)
    else .error (tk t p).2.1
  else if (tk t p).1 = 2 then .ok ([(tk t p).2.2.1.toInt32], (fun _ => (tk t p).2.2.1.toInt32), (tk t p).2.2.2)
  else if (tk t p).1 = 1 then (match nameIx (tk t p).2.2.1 with
    | some i => .ok ([-1 - nI i], (fun v => v i), (tk t p).2.2.2)
    | none => .error (tk t p).2.1)
  else .error (tk t p).2.1
def loopG (t : TB) (op : Tk → Option Int32) (sub : Nat → Rs) : Nat → List Int32 → Ev → Nat → Rs
  | 0, _, _, _ => .error 9999
  | n + 1, c, e, p => match op (tk t p) with
    | none => .ok (c, e, p)
    | some k => match sub (tk t p).2.2.2 with
      | .error x => .error x
      | .ok r => loopG t op sub n (c ++ r.1 ++ [k]) (fun v => jn k (e v) (r.2.1 v)) r.2.2
def chainG (t : TB) (op : Tk → Option Int32) (sub : Nat → Rs) (p : Nat) : Rs := match sub p with
  | .error x => .error x
  | .ok r => loopG t op sub 162 r.1 r.2.1 r.2.2
def opMul (T : Tk) : Option Int32 := if T.1 = 3 ∧ T.2.2.1 = 42 then some (-42) else none
def opAdd (T : Tk) : Option Int32 := if T.1 = 3 ∧ T.2.2.1 = 43 then some (-43) else if T.1 = 3 ∧ T.2.2.1 = 45 then some (-45) else none
def opAnd (T : Tk) : Option Int32 := if T.1 = 1 ∧ T.2.2.1 = 1111 then some (-10) else none
def opOr (T : Tk) : Option Int32 := if T.1 = 1 ∧ T.2.2.1 = 423 then some (-9) else none
def notG (t : TB) (al : Bool) (rN add : Nat → Rs) (p : Nat) : Rs :=
  if (tk t p).1 = 1 ∧ (tk t p).2.2.1 = 10631 then
    if al = true then (match rN (tk t p).2.2.2 with
      | .ok r => .ok (r.1 ++ [-11], (fun v => if r.2.1 v = 0 then 1 else 0), r.2.2)
      | .error x => .error x)
    else .error (tk t p).2.1
  else match add p with
    | .error x => .error x
    | .ok r => if (tk t r.2.2).1 = 3 ∧ ((tk t r.2.2).2.2.1 = 60 ∨ (tk t r.2.2).2.2.1 = 61) then (match add (tk t r.2.2).2.2.2 with
        | .error x => .error x
        | .ok r2 => .ok (r.1 ++ r2.1 ++ [if (tk t r.2.2).2.2.1 = 60 then -60 else -61], (fun v => jn (if (tk t r.2.2).2.2.1 = 60 then -60 else -61) (r.2.1 v) (r2.2.1 v)), r2.2.2))
      else .ok r
def addG (t : TB) (o : Nat → Rs) : Nat → Rs := chainG t opAdd (chainG t opMul o)
def eitherG (t : TB) (nn : Nat → Rs) : Nat → Rs := chainG t opOr (chainG t opAnd nn)
/-- one, either, not, with k more that may be opened -/
def gram (t : TB) : Nat → (Nat → Rs) × (Nat → Rs) × (Nat → Rs)
  | 0 => (oneG t false (fun _ => .error 0) (fun _ => .error 0), eitherG t (notG t false (fun _ => .error 0) (addG t (oneG t false (fun _ => .error 0) (fun _ => .error 0)))), notG t false (fun _ => .error 0) (addG t (oneG t false (fun _ => .error 0) (fun _ => .error 0))))
  | k + 1 => (oneG t true (gram t k).1 (gram t k).2.1, eitherG t (notG t true (gram t k).2.2 (addG t (oneG t true (gram t k).1 (gram t k).2.1))), notG t true (gram t k).2.2 (addG t (oneG t true (gram t k).1 (gram t k).2.1)))
def partG (t : TB) (key : Int64) (p : Nat) : Rs :=
  if (tk t p).1 = 1 ∧ (tk t p).2.2.1 = key then (match (gram t 5).2.1 (tk t p).2.2.2 with
    | .error x => .error x
    | .ok r => if (tk t r.2.2).1 = 3 ∧ (tk t r.2.2).2.2.1 = 59 then .ok (r.1, r.2.1, (tk t r.2.2).2.2.2) else .error (tk t r.2.2).2.1)
  else .error (tk t p).2.1
/-- what a text's three parts are: their codes and values; or where its fault is -/
def textG (t : TB) : Except Nat ((List Int32 × Ev) × (List Int32 × Ev) × (List Int32 × Ev)) := match partG t 2436392 0 with
  | .error x => .error x
  | .ok a => match partG t 8863997 a.2.2 with
    | .error x => .error x
    | .ok b => match partG t 307058 b.2.2 with
      | .error x => .error x
      | .ok c => if (tk t c.2.2).1 = 0 then .ok ((a.1, a.2.1), (b.1, b.2.1), (c.1, c.2.1)) else .error (tk t c.2.2).2.1
/-- it goes on, and not behind the text's end; a fault lies in it -/
def Mono (t : TB) (f : Nat → Rs) : Prop := ∀ p, p ≤ t.2 → (∀ r, f p = .ok r → p ≤ r.2.2 ∧ r.2.2 ≤ t.2) ∧ (∀ x, f p = .error x → x ≤ t.2)
theorem Mono.one {t : TB} {al : Bool} {rO rE : Nat → Rs} (hO : al = true → Mono t rO) (hE : al = true → Mono t rE) : Mono t (oneG t al rO rE) := by
  intro p hp
  obtain ⟨a1, a2, a3⟩ := tk_le t p hp
  unfold oneG
  split
  · split
    · next q =>
      have h := hO q _ a2
      cases e : rO (tk t p).2.2.2 with
      | error x => exact ⟨fun r z => (by cases z), fun y z => by cases z; exact h.2 _ e⟩
      | ok r => exact ⟨fun r' z => by cases z; have := h.1 r e; exact ⟨Nat.le_trans a3 this.1, this.2⟩, fun y z => (by cases z)⟩
    · exact ⟨fun r z => (by cases z), fun y z => by cases z; exact a1⟩
  · split
    · split
      · next q =>
        have h := hE q _ a2
        cases e : rE (tk t p).2.2.2 with
        | error x => exact ⟨fun r z => (by cases z), fun y z => by cases z; exact h.2 _ e⟩
        | ok r =>
          have h1 := h.1 r e
          obtain ⟨b1, b2, b3⟩ := tk_le t r.2.2 h1.2
          dsimp only
          split
          · exact ⟨fun r' z => by cases z; exact ⟨Nat.le_trans a3 (Nat.le_trans h1.1 b3), b2⟩, fun y z => (by cases z)⟩
          · exact ⟨fun r z => (by cases z), fun y z => by cases z; exact b1⟩
      · exact ⟨fun r z => (by cases z), fun y z => by cases z; exact a1⟩
    · split
      · exact ⟨fun r z => by cases z; exact ⟨a3, a2⟩, fun y z => (by cases z)⟩
      · split
        · cases nameIx (tk t p).2.2.1 with
          | none => exact ⟨fun r z => (by cases z), fun y z => by cases z; exact a1⟩
          | some i => exact ⟨fun r z => by cases z; exact ⟨a3, a2⟩, fun y z => (by cases z)⟩
        · exact ⟨fun r z => (by cases z), fun y z => by cases z; exact a1⟩
/-- a chain's sign stands where a word or a sign does -/
def OpOk (op : Tk → Option Int32) : Prop := ∀ T k, op T = some k → T.1 = 1 ∨ T.1 = 3
theorem Mono.loop {t : TB} {op : Tk → Option Int32} {sub : Nat → Rs} (hs : Mono t sub) (ho : OpOk op) : ∀ (n : Nat) (c : List Int32) (e : Ev) (p : Nat), p ≤ t.2 → t.2 - p < n → (∀ r, loopG t op sub n c e p = .ok r → p ≤ r.2.2 ∧ r.2.2 ≤ t.2) ∧ (∀ x, loopG t op sub n c e p = .error x → x ≤ t.2) := by
  intro n
  induction n with
  | zero => intro c e p _ h; exact absurd h (Nat.not_lt_zero _)
  | succ n ih =>
    intro c e p hp hn
    obtain ⟨a1, a2, a3⟩ := tk_le t p hp
    unfold loopG
    cases e1 : op (tk t p) with
    | none => exact ⟨fun r z => by cases z; exact ⟨Nat.le_refl p, hp⟩, fun y z => (by cases z)⟩
    | some k =>
      have hgt := tk_gt t p hp (ho _ _ e1)
      have h := hs _ a2
      dsimp only
      cases e2 : sub (tk t p).2.2.2 with
      | error x => exact ⟨fun r z => (by cases z), fun y z => by cases z; exact h.2 _ e2⟩
      | ok r =>
        have h1 := h.1 r e2
        have h2 := ih (c ++ r.1 ++ [k]) (fun v => jn k (e v) (r.2.1 v)) r.2.2 h1.2 (by omega)
        exact ⟨fun r' z => by have := h2.1 r' z; exact ⟨by omega, this.2⟩, h2.2⟩
theorem Mono.chain {t : TB} {op : Tk → Option Int32} {sub : Nat → Rs} (ht : t.2 ≤ 160) (hs : Mono t sub) (ho : OpOk op) : Mono t (chainG t op sub) := by
  intro p hp
  have h := hs p hp
  unfold chainG
  cases e : sub p with
  | error x => exact ⟨fun r z => (by cases z), fun y z => by cases z; exact h.2 _ e⟩
  | ok r =>
    have h1 := h.1 r e
    have h2 := Mono.loop hs ho 162 r.1 r.2.1 r.2.2 h1.2 (by omega)
    exact ⟨fun r' z => by have := h2.1 r' z; exact ⟨by omega, this.2⟩, h2.2⟩
theorem opMul_ok : OpOk opMul := by
  intro T k h
  unfold opMul at h
  split at h
  · next q => exact Or.inr q.1
  · cases h
theorem opAdd_ok : OpOk opAdd := by
  intro T k h
  unfold opAdd at h
  split at h
  · next q => exact Or.inr q.1
  · split at h
    · next q => exact Or.inr q.1
    · cases h
theorem opAnd_ok : OpOk opAnd := by
  intro T k h
  unfold opAnd at h
  split at h
  · next q => exact Or.inl q.1
  · cases h
theorem opOr_ok : OpOk opOr := by
  intro T k h
  unfold opOr at h
  split at h
  · next q => exact Or.inl q.1
  · cases h
theorem Mono.not {t : TB} {al : Bool} {rN add : Nat → Rs} (hN : al = true → Mono t rN) (hA : Mono t add) : Mono t (notG t al rN add) := by
  intro p hp
  obtain ⟨a1, a2, a3⟩ := tk_le t p hp
  unfold notG
  split
  · split
    · next q =>
      have h := hN q _ a2
      cases e : rN (tk t p).2.2.2 with
      | error x => exact ⟨fun r z => (by cases z), fun y z => by cases z; exact h.2 _ e⟩
      | ok r => exact ⟨fun r' z => by cases z; have := h.1 r e; exact ⟨Nat.le_trans a3 this.1, this.2⟩, fun y z => (by cases z)⟩
    · exact ⟨fun r z => (by cases z), fun y z => by cases z; exact a1⟩
  · have h := hA p hp
    cases e : add p with
    | error x => exact ⟨fun r z => (by cases z), fun y z => by cases z; exact h.2 _ e⟩
    | ok r =>
      have h1 := h.1 r e
      obtain ⟨b1, b2, b3⟩ := tk_le t r.2.2 h1.2
      dsimp only
      split
      · have h2 := hA _ b2
        cases e2 : add (tk t r.2.2).2.2.2 with
        | error x => exact ⟨fun r z => (by cases z), fun y z => by cases z; exact h2.2 _ e2⟩
        | ok r2 => exact ⟨fun r' z => by cases z; have := h2.1 r2 e2; exact ⟨by have := h1.1; show p ≤ r2.2.2; omega, this.2⟩, fun y z => (by cases z)⟩
      · exact ⟨fun r' z => by cases z; exact h1, fun y z => (by cases z)⟩
theorem gram_mono (t : TB) (ht : t.2 ≤ 160) : ∀ k, Mono t (gram t k).1 ∧ Mono t (gram t k).2.1 ∧ Mono t (gram t k).2.2
  | 0 => by
    have h1 : Mono t (oneG t false (fun _ => .error 0) (fun _ => .error 0)) := Mono.one (al := false) (fun z => absurd z (by decide)) (fun z => absurd z (by decide))
    have h2 : Mono t (notG t false (fun _ => .error 0) (addG t (oneG t false (fun _ => .error 0) (fun _ => .error 0)))) := Mono.not (al := false) (fun z => absurd z (by decide)) (Mono.chain ht (Mono.chain ht h1 opMul_ok) opAdd_ok)
    exact ⟨h1, Mono.chain ht (Mono.chain ht h2 opAnd_ok) opOr_ok, h2⟩
  | k + 1 => by
    obtain ⟨i1, i2, i3⟩ := gram_mono t ht k
    have h1 : Mono t (oneG t true (gram t k).1 (gram t k).2.1) := Mono.one (al := true) (fun _ => i1) (fun _ => i2)
    have h2 : Mono t (notG t true (gram t k).2.2 (addG t (oneG t true (gram t k).1 (gram t k).2.1))) := Mono.not (al := true) (fun _ => i3) (Mono.chain ht (Mono.chain ht h1 opMul_ok) opAdd_ok)
    exact ⟨h1, Mono.chain ht (Mono.chain ht h2 opAnd_ok) opOr_ok, h2⟩
