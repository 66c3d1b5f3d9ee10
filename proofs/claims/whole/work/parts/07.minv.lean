/-- a count: 0 .. N -/
def Ct (x : Int32) (N : Nat) : Prop := ∃ k : Nat, k ≤ N ∧ x = nI k
theorem Ct.zero (N : Nat) : Ct 0 N := ⟨0, Nat.zero_le _, rfl⟩
theorem Ct.up {l B : Int32} {N : Nat} (hN : N < 1000000) (hB : Ct B N) (hl : Ct l N) (c : ¬ B ≤ l) : vp_in l N ∧ Ct (l + 1) N ∧ N + 1 - (l + 1).toNatClampNeg < N + 1 - l.toNatClampNeg := by
  obtain ⟨b, hb, rfl⟩ := hB
  obtain ⟨k, hk, rfl⟩ := hl
  have h1 : ¬ b ≤ k := fun q => c (nI_le q (by omega))
  refine ⟨vp_in_nI (by omega) (by omega), ⟨k + 1, by omega, nI_1 k⟩, ?_⟩
  rw [nI_1, nI_clamp (by omega), nI_clamp (by omega)]
  omega
theorem Ct.up' {l B : Int32} {N : Nat} (hN : N < 1000000) (hB : Ct B N) (hl : Ct l N) (c : l < B) : vp_in l N ∧ Ct (l + 1) N ∧ N + 1 - (l + 1).toNatClampNeg < N + 1 - l.toNatClampNeg := Ct.up hN hB hl (Int32.not_le.mpr c)
theorem Ct.nat {x : Int32} {N : Nat} (hN : N < 1000000) (h : Ct x N) : x = nI x.toNatClampNeg ∧ x.toNatClampNeg ≤ N := by
  obtain ⟨k, hk, rfl⟩ := h
  rw [nI_clamp (by omega)]
  exact ⟨rfl, hk⟩
def P3 (p : Int32) : Prop := p = 0 ∨ p = 1 ∨ p = 2
theorem lg_lt (x y : Int64) : lg_cmp x y < 0 ↔ x < y := by
  unfold lg_cmp
  have a1 := Int64.lt_iff_toInt_lt (x := x) (y := y)
  have a2 := Int64.lt_iff_toInt_lt (x := y) (y := x)
  have a3 := @Int64.toInt_inj x y
  split
  · next q => exact ⟨fun z => absurd z (by decide), fun z => by have z := a1.mp z; have q := a2.mp q; omega⟩
  · split
    · next q => exact ⟨fun z => absurd z (by decide), fun z => by have z := a1.mp z; have := a3.mpr q; omega⟩
    · next q1 q2 => exact ⟨fun _ => a1.mpr (by have q1 : ¬ y.toInt < x.toInt := fun z => q1 (a2.mpr z); have : ¬ x.toInt = y.toInt := fun z => q2 (a3.mp z); omega), fun _ => by decide⟩
theorem lg_gt (x y : Int64) : 0 < lg_cmp x y ↔ y < x := by
  unfold lg_cmp
  have a2 := Int64.lt_iff_toInt_lt (x := y) (y := x)
  split
  · next q => exact ⟨fun _ => q, fun _ => by decide⟩
  · next q =>
    split
    · exact ⟨fun z => absurd z (by decide), fun z => absurd z q⟩
    · exact ⟨fun z => absurd z (by decide), fun z => absurd z q⟩
theorem lg_eq (x y : Int64) : lg_cmp x y = 0 ↔ x = y := by
  unfold lg_cmp
  have a1 := Int64.lt_iff_toInt_lt (x := y) (y := x)
  split
  · next q => exact ⟨fun z => absurd z (by decide), fun z => by subst z; have q := a1.mp q; omega⟩
  · split
    · next q => exact ⟨fun _ => q, fun _ => rfl⟩
    · next q => exact ⟨fun z => absurd z (by decide), fun z => absurd z q⟩
theorem f_in_iff (v a b : Int64) : f_X10_in v a b = if a ≤ v ∧ v ≤ b then 1 else 0 := by
  unfold f_X10_in
  have h1 := lg_lt v a
  have h2 := lg_gt v b
  have e1 : a ≤ v ↔ ¬ v < a := Int64.not_lt.symm
  have e2 : v ≤ b ↔ ¬ b < v := Int64.not_lt.symm
  simp only [e1, e2, h1, h2]
  (repeat' split) <;> simp_all

theorem t64 (x : Int32) : x.toInt64.toInt = x.toInt := by simp
/-- in(v, a, b) of ints -/
theorem f_in_32 (v a b : Int32) : f_X10_in v.toInt64 a.toInt64 b.toInt64 = if a ≤ v ∧ v ≤ b then 1 else 0 := by
  rw [f_in_iff]
  simp only [Int64.le_iff_toInt_le, Int32.le_iff_toInt_le, t64]
theorem f_in_k (v : Int32) (a b : Int64) (a' b' : Int32) (ha : a = a'.toInt64) (hb : b = b'.toInt64) : f_X10_in v.toInt64 a b = if a' ≤ v ∧ v ≤ b' then 1 else 0 := by
  subst ha; subst hb
  exact f_in_32 v a' b'
theorem P3.cases {p : Int32} {Q : Int32 → Prop} (h : P3 p) (h0 : Q 0) (h1 : Q 1) (h2 : Q 2) : Q p := by
  rcases h with rfl | rfl | rfl
  · exact h0
  · exact h1
  · exact h2
theorem nI_of_rg {x : Int32} {N : Nat} (hN : N < 1000000) (h0 : 0 ≤ x) (h1 : x ≤ nI N) : ∃ j : Nat, j ≤ N ∧ x = nI j := by
  have h2 : ¬ x < 0 := Int32.not_lt.mpr h0
  obtain ⟨j, hj, rfl⟩ := nI_of h2
  exact ⟨j, (nI_leI hj (by omega)).mp h1, rfl⟩
set_option maxRecDepth 100000 in
theorem parts_tab : ∀ j, j < 334 → f_X10_areParts (nI j) = 1 → (∀ p ∈ ([0, 1, 2] : List Int32), ¬ (f_X10_partOf (nI j) p < 0 ∨ 4 ≤ (f_X10_partOf (nI j) p).toNatClampNeg)) := by decide +kernel
theorem parts_rg {x : Int32} (h : f_X10_areParts x = 1) : ∃ j : Nat, j ≤ 333 ∧ x = nI j := by
  unfold f_X10_areParts at h
  rw [f_in_k x 0 333 0 333 rfl rfl] at h
  by_cases q : (0 : Int32) ≤ x ∧ x ≤ 333
  · exact nI_of_rg (by decide) q.1 q.2
  · rw [if_neg q, if_pos rfl] at h
    exact absurd h (by decide)
theorem parts_ok {x : Int32} (h : f_X10_areParts x = 1) {p : Int32} (hp : P3 p) : vp_in (f_X10_partOf x p) 4 := by
  obtain ⟨j, hj, rfl⟩ := parts_rg h
  exact parts_tab j (by omega) h p (by rcases hp with rfl | rfl | rfl <;> simp)
/-- what keeps the reference's rows in their bounds -/
def MInv (σ : MSt) : Prop :=
  (Ct (σ.1 12) 8 ∧ Ct (σ.1 20) 24 ∧ Ct (σ.1 26) 40 ∧ Ct (σ.1 3) 6 ∧ Ct (σ.1 6) 160) ∧
  (∀ i, vp_in (σ.2.2 17 i) 8) ∧ (∀ i, vp_in (σ.2.2 18 i) 8) ∧ (∀ i, f_X10_areParts (σ.2.2 10 i) = 1) ∧ (∀ i, f_X10_areParts (σ.2.2 19 i) = 1) ∧ (∀ i, vp_in (σ.2.2 21 i) 24) ∧ (∀ i, vp_in (σ.2.2 16 i) 6) ∧
  (∀ i, Ct (σ.2.2 42 i) 12) ∧ (∀ i, vp_in (σ.2.2 43 i) 24) ∧ (∀ i, σ.2.2 56 i = 0 ∨ Ct (σ.2.2 58 i) 40) ∧ (∀ i, Ct (σ.2.2 2 i) 160) ∧ vp_in (σ.1 4) 6 ∧ Ct (σ.1 53) 8 ∧ Ct (σ.1 54) 40 ∧ vp_in (σ.1 55) 6 ∧ (∀ i, 0 ≤ σ.2.2 1 i) ∧ (∀ i, 0 ≤ σ.2.2 5 i)
theorem MInv.shows {σ : MSt} (h : MInv σ) (b : Int32) {p : Int32} (hp : P3 p) : vp_in (f_X10_showsOf σ b p) 4 := by
  unfold f_X10_showsOf
  have h1 := parts_ok (h.2.2.2.1 (Int32.toNatClampNeg (σ.2.2 17 (Int32.toNatClampNeg b)))) hp
  have h2 := parts_ok (h.2.2.2.2.1 (Int32.toNatClampNeg b)) hp
  (repeat' split) <;> assumption
set_option maxRecDepth 100000 in
theorem at_tab : ∀ j, j < 4 → ∀ p ∈ ([0, 1, 2] : List Int32), ¬ (4 * p + nI j < 0 ∨ 12 ≤ (4 * p + nI j).toNatClampNeg) := by decide +kernel
theorem MInv.at {σ : MSt} (h : MInv σ) (b : Int32) {p : Int32} (hp : P3 p) : vp_in (4 * p + f_X10_showsOf σ b p) 12 := by
  obtain ⟨j, hj, e⟩ := vp_in_of (h.shows b hp) (by decide)
  rw [e]
  exact at_tab j hj p (by rcases hp with rfl | rfl | rfl <;> simp)
theorem MInv.says {σ : MSt} (h : MInv σ) (i : Nat) : vp_in (σ.2.2 17 i) 8 := h.2.1 i
theorem MInv.holds {σ : MSt} (h : MInv σ) (i : Nat) : vp_in (σ.2.2 18 i) 8 := h.2.2.1 i
theorem MInv.sb {σ : MSt} (h : MInv σ) (i : Nat) : vp_in (σ.2.2 21 i) 24 := h.2.2.2.2.2.1 i
theorem MInv.nw {σ : MSt} (h : MInv σ) : Ct (σ.1 12) 8 := h.1.1
theorem MInv.nb {σ : MSt} (h : MInv σ) : Ct (σ.1 20) 24 := h.1.2.1
theorem MInv.ns {σ : MSt} (h : MInv σ) : Ct (σ.1 26) 40 := h.1.2.2.1
theorem MInv.nt {σ : MSt} (h : MInv σ) : Ct (σ.1 3) 6 := h.1.2.2.2.1
theorem MInv.np {σ : MSt} (h : MInv σ) : Ct (σ.1 6) 160 := h.1.2.2.2.2
theorem P3.a : P3 0 := Or.inl rfl
theorem P3.b : P3 1 := Or.inr (Or.inl rfl)
theorem P3.c : P3 2 := Or.inr (Or.inr rfl)
theorem MInv.kind {σ : MSt} (h : MInv σ) (i : Nat) : vp_in (σ.2.2 16 i) 6 := h.2.2.2.2.2.2.1 i
theorem MInv.given {σ : MSt} (h : MInv σ) (i : Nat) : Ct (σ.2.2 42 i) 12 := h.2.2.2.2.2.2.2.1 i
theorem MInv.gb {σ : MSt} (h : MInv σ) (i : Nat) : vp_in (σ.2.2 43 i) 24 := h.2.2.2.2.2.2.2.2.1 i
theorem MInv.sz {σ : MSt} (h : MInv σ) (i : Nat) : σ.2.2 56 i = 0 ∨ Ct (σ.2.2 58 i) 40 := h.2.2.2.2.2.2.2.2.2.1 i
theorem MInv.ts {σ : MSt} (h : MInv σ) (i : Nat) : Ct (σ.2.2 2 i) 160 := h.2.2.2.2.2.2.2.2.2.2.1 i
theorem MInv.rl {σ : MSt} (h : MInv σ) : vp_in (σ.1 4) 6 := h.2.2.2.2.2.2.2.2.2.2.2.1
theorem MInv.iw {σ : MSt} (h : MInv σ) : Ct (σ.1 53) 8 := h.2.2.2.2.2.2.2.2.2.2.2.2.1
theorem MInv.is {σ : MSt} (h : MInv σ) : Ct (σ.1 54) 40 := h.2.2.2.2.2.2.2.2.2.2.2.2.2.1
theorem MInv.ir {σ : MSt} (h : MInv σ) : vp_in (σ.1 55) 6 := h.2.2.2.2.2.2.2.2.2.2.2.2.2.2.1
theorem MInv.tx {σ : MSt} (h : MInv σ) (i : Nat) : 0 ≤ σ.2.2 1 i := h.2.2.2.2.2.2.2.2.2.2.2.2.2.2.2.1 i
theorem MInv.tp {σ : MSt} (h : MInv σ) (i : Nat) : 0 ≤ σ.2.2 5 i := h.2.2.2.2.2.2.2.2.2.2.2.2.2.2.2.2 i
