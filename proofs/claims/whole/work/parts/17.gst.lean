/-- the reference while it reads: token T, worth w, o opened, no fault -/
def psS (σ0 : MSt) (T : Tk) (w : Int64) (o : Nat) : MSt := (fun j => if j = 29 then T.1 else if j = 30 then nI T.2.1 else if j = 32 then nI T.2.2.2 else if j = 33 then nI o else if j = 34 then 0 else σ0.1 j, w, σ0.2.2)
def OkS (t : TB) (σ0 : MSt) (p o : Nat) (σ : MSt) : Prop := ∃ w, ((tk t p).1 = 1 ∨ (tk t p).1 = 2 ∨ (tk t p).1 = 3 → w = (tk t p).2.2.1) ∧ σ = psS σ0 (tk t p) w o
/-- it found a fault at y -/
def Er (σ0 : MSt) (y : Nat) (σ : MSt) : Prop := σ.2.2 = σ0.2.2 ∧ σ.1 34 = 1 ∧ σ.1 35 = nI y ∧ ∀ j, j ≠ 29 → j ≠ 30 → j ≠ 32 → j ≠ 33 → j ≠ 34 → j ≠ 35 → σ.1 j = σ0.1 j
def env (σ0 : MSt) : Nat → Int32 := fun i => σ0.1 (36 + i)
def Kp (t : TB) (σ0 : MSt) (o : Nat) (r : Rs) (v : Option Value) (σ : MSt) : Prop := match r with
  | .ok r => r.2.2 ≤ t.2 ∧ v = some (.int (r.2.1 (env σ0))) ∧ OkS t σ0 r.2.2 o σ
  | .error y => (∃ z, v = some (.int z)) ∧ Er σ0 y σ
theorem Kp.okI {t : TB} {σ0 : MSt} {o : Nat} {r : Rs} {v : Int32} {σ : MSt} {a : List Int32 × Ev × Nat} (e : r = .ok a) (h1 : a.2.2 ≤ t.2) (h2 : v = a.2.1 (env σ0)) (h3 : OkS t σ0 a.2.2 o σ) : Kp t σ0 o r (some (.int v)) σ := by
  subst e
  exact ⟨h1, by rw [h2], h3⟩
theorem Kp.erI {t : TB} {σ0 : MSt} {o : Nat} {r : Rs} {v : Int32} {σ : MSt} {y : Nat} (e : r = .error y) (h : Er σ0 y σ) : Kp t σ0 o r (some (.int v)) σ := by
  subst e
  exact ⟨⟨v, rfl⟩, h⟩
theorem ps_TX {σ0 : MSt} {t : TB} {x : Nat} (h : TX σ0 t x) (T : Tk) (w : Int64) (o : Nat) : TX (psS σ0 T w o) t x := h
theorem ps_isS {t : TB} {σ0 : MSt} {p o : Nat} {w : Int64} (hw : (tk t p).1 = 1 ∨ (tk t p).1 = 2 ∨ (tk t p).1 = 3 → w = (tk t p).2.2.1) (c : Int32) : f_X10_isSign (psS σ0 (tk t p) w o) c = if (tk t p).1 = 3 ∧ (tk t p).2.2.1 = c.toInt64 then 1 else 0 := by
  unfold f_X10_isSign
  rw [if_pos (show (psS σ0 (tk t p) w o).1 34 = 0 from rfl)]
  show (if (tk t p).1 = 3 then (if lg_cmp w c.toInt64 = 0 then (1 : Int32) else 0) else 0) = _
  by_cases q : (tk t p).1 = 3
  · rw [if_pos q, hw (Or.inr (Or.inr q))]
    by_cases z : (tk t p).2.2.1 = c.toInt64
    · rw [if_pos ((lg_eq _ _).mpr z), if_pos ⟨q, z⟩]
    · rw [if_neg (fun y => z ((lg_eq _ _).mp y)), if_neg (fun y => z y.2)]
  · rw [if_neg q, if_neg (fun y => q y.1)]
theorem ps_isW {t : TB} {σ0 : MSt} {p o : Nat} {w : Int64} (hw : (tk t p).1 = 1 ∨ (tk t p).1 = 2 ∨ (tk t p).1 = 3 → w = (tk t p).2.2.1) (c : Int64) : f_X10_isWord (psS σ0 (tk t p) w o) c = if (tk t p).1 = 1 ∧ (tk t p).2.2.1 = c then 1 else 0 := by
  unfold f_X10_isWord
  rw [if_pos (show (psS σ0 (tk t p) w o).1 34 = 0 from rfl)]
  show (if (tk t p).1 = 1 then (if lg_cmp w c = 0 then (1 : Int32) else 0) else 0) = _
  by_cases q : (tk t p).1 = 1
  · rw [if_pos q, hw (Or.inl q)]
    by_cases z : (tk t p).2.2.1 = c
    · rw [if_pos ((lg_eq _ _).mpr z), if_pos ⟨q, z⟩]
    · rw [if_neg (fun y => z ((lg_eq _ _).mp y)), if_neg (fun y => z y.2)]
  · rw [if_neg q, if_neg (fun y => q y.1)]
theorem ps_next {t : TB} {σ0 : MSt} {x p o : Nat} {w : Int64} {T : Tk} (hT : TX σ0 t x) (hp : T.2.2.2 ≤ t.2) : OkS t σ0 T.2.2.2 o (f_X10_next (psS σ0 T w o)) := by
  obtain ⟨w', h1, h2⟩ := next_eq (σ := psS σ0 T w o) (k := T.2.2.2) (ps_TX hT _ _ _) rfl hp
  refine ⟨w', h1, h2.trans ?_⟩
  refine st_ext (fun j => ?_) rfl rfl
  simp only [psS]
  by_cases j1 : j = 29 <;> by_cases j2 : j = 30 <;> by_cases j3 : j = 32 <;> simp_all
theorem ps_fail {σ0 : MSt} {o : Nat} {w : Int64} (T : Tk) : Er σ0 T.2.1 (f_X10_fail (psS σ0 T w o)) := by
  unfold f_X10_fail
  rw [if_pos (show (psS σ0 T w o).1 34 = 0 from rfl)]
  refine ⟨rfl, rfl, rfl, fun j a b c d e f => ?_⟩
  simp only [mp, upd, psS]
  simp [a, b, c, d, e, f]
theorem er_fail {σ0 σ : MSt} {y : Nat} (h : Er σ0 y σ) : f_X10_fail σ = σ := by
  unfold f_X10_fail
  rw [if_neg (by rw [h.2.1]; decide)]
theorem er_isS {σ0 σ : MSt} {y : Nat} (h : Er σ0 y σ) (c : Int32) : f_X10_isSign σ c = 0 := by
  unfold f_X10_isSign
  rw [if_neg (by rw [h.2.1]; decide)]
theorem er_isW {σ0 σ : MSt} {y : Nat} (h : Er σ0 y σ) (c : Int64) : f_X10_isWord σ c = 0 := by
  unfold f_X10_isWord
  rw [if_neg (by rw [h.2.1]; decide)]
theorem er_mp {σ0 σ : MSt} {y : Nat} (h : Er σ0 y σ) (v : Int32) : Er σ0 y (mp σ 33 v) := by
  refine ⟨h.1, h.2.1, h.2.2.1, fun j a b c d e f => ?_⟩
  rw [show (mp σ 33 v).1 j = σ.1 j from if_neg d]
  exact h.2.2.2 j a b c d e f
theorem ps_close {t : TB} {σ0 : MSt} {p o : Nat} {σ : MSt} (h : OkS t σ0 p (o + 1) σ) : OkS t σ0 p o (mp σ 33 (σ.1 33 - 1)) := by
  obtain ⟨w, hw, rfl⟩ := h
  refine ⟨w, hw, ?_⟩
  refine st_ext (fun j => ?_) rfl rfl
  have e : (psS σ0 (tk t p) w (o + 1)).1 33 - 1 = nI o := nI_pred o
  rw [e]
  simp only [upd, psS]
  by_cases j1 : j = 29 <;> by_cases j2 : j = 30 <;> by_cases j3 : j = 32 <;> by_cases j4 : j = 33 <;> simp_all
theorem ps_opens {t : TB} {σ0 : MSt} {x p o : Nat} {w : Int64} (hT : TX σ0 t x) (ho : o ≤ 5) (hp : p ≤ t.2) : (o = 5 ∧ f_X10_opens (psS σ0 (tk t p) w o) = (0, f_X10_fail (psS σ0 (tk t p) w o))) ∨ (o < 5 ∧ ∃ s1, f_X10_opens (psS σ0 (tk t p) w o) = (1, s1) ∧ OkS t σ0 (tk t p).2.2.2 (o + 1) s1) := by
  unfold f_X10_opens
  rcases Nat.lt_or_ge o 5 with q | q
  · refine Or.inr ⟨q, ?_⟩
    have h33 : (psS σ0 (tk t p) w o).1 33 = nI o := rfl
    rw [h33, if_neg (fun z => by have := (nI_eq (b := 5) (by omega) (by decide)).mp z; omega)]
    refine ⟨_, rfl, ?_⟩
    have e : mp (psS σ0 (tk t p) w o) 33 (nI o + 1) = psS σ0 (tk t p) w (o + 1) := by
      refine st_ext (fun j => ?_) rfl rfl
      rw [nI_1]
      simp only [upd, psS]
      by_cases j1 : j = 29 <;> by_cases j2 : j = 30 <;> by_cases j3 : j = 32 <;> by_cases j4 : j = 33 <;> simp_all
    rw [e]
    exact ps_next (p := p) hT (tk_le t p hp).2.1
  · have : o = 5 := by omega
    subst this
    exact Or.inl ⟨rfl, if_pos rfl⟩
theorem ps_PV {t : TB} {σ0 : MSt} {x p o : Nat} {w : Int64} (hT : TX σ0 t x) (hp : p ≤ t.2) : PV ((psS σ0 (tk t p) w o).1 27) ((psS σ0 (tk t p) w o).1 28) ((psS σ0 (tk t p) w o).1 32) := by
  obtain ⟨a, b, c, d, -⟩ := hT
  exact ⟨x, t.2, (tk t p).2.2.2, a, b, c, d, rfl, (tk_le t p hp).2.1⟩
theorem ite_ne {c : Prop} [Decidable c] (h : ¬ (if c then (1 : Int32) else 0) = 0) : c := by
  rcases Classical.em c with q | q
  · exact q
  · rw [if_neg q] at h; exact absurd rfl h
theorem ite_eq {c : Prop} [Decidable c] (h : (if c then (1 : Int32) else 0) = 0) : ¬ c := by
  intro q
  rw [if_pos q] at h
  exact absurd h (by decide)
