/-! a code list of the grammar, run by the class's stack machine -/
theorem gd_l {a b : List Int32} {j : Nat} (h : j < a.length) : (a ++ b).getD j 0 = a.getD j 0 := by
  rw [List.getD_eq_getElem?_getD, List.getD_eq_getElem?_getD, List.getElem?_append_left h]
theorem gd_r {a b : List Int32} (j : Nat) : (a ++ b).getD (a.length + j) 0 = b.getD j 0 := by
  rw [List.getD_eq_getElem?_getD, List.getD_eq_getElem?_getD, List.getElem?_append_right (Nat.le_add_right _ _), Nat.add_sub_cancel_left]
theorem xa_xb (σ : XSt) (w : Nat → Int32) (k : Nat) (x : Int32) : xa (xb σ 16 0 w) 16 0 k x = xb σ 16 0 (upd w k x) := by
  refine Prod.ext rfl ?_
  funext c i j
  show up3 (up3a σ.2 16 0 w) 16 0 k x c i j = up3a σ.2 16 0 (upd w k x) c i j
  unfold up3 up3a upd
  by_cases h1 : c = 16 ∧ i = 0
  · by_cases h2 : j = k
    · rw [if_pos ⟨h1.1, h1.2, h2⟩, if_pos h1, if_pos h2]
    · rw [if_neg (fun z => h2 z.2.2), if_pos h1, if_pos h1, if_neg h2]
  · rw [if_neg (fun z => h1 ⟨z.1, z.2.1⟩), if_neg h1, if_neg h1]
theorem xb_at (σ : XSt) (w : Nat → Int32) : (xb σ 16 0 w).2 16 0 = w := by
  show up3a σ.2 16 0 w 16 0 = w
  exact up3a_self _ _ _ _
theorem xb_15 (σ : XSt) (w : Nat → Int32) : (xb σ 16 0 w).2 15 0 = σ.2 15 0 := by
  show up3a σ.2 16 0 w 15 0 = _
  exact up3a_other _ _ (by decide)
theorem xb_32 (σ : XSt) (w : Nat → Int32) (o : Nat) : (xb σ 16 0 w).2 32 o = σ.2 32 o := by
  show up3a σ.2 16 0 w 32 o = _
  exact up3a_other _ _ (fun z => absurd z.1 (by decide))
section VL
variable {S : XSh} {σ : XSt} {o T p h : Nat} {w : Nat → Int32}
theorem vl_push (hT : T ≤ S 5 o) (hS : S 5 o ≤ 160) (hp : p < T) (hh : h < 160) (hc : ¬ σ.2 32 o p < (-(6 : Int32))) (n : Nat) (l1 l4 : Int32) : f_X5_valueOf_L63 (n + 1) S (xb σ 16 0 w) o l1 l4 (nI T) (nI h) (nI p) = f_X5_valueOf_L63 n S (xb σ 16 0 (upd w h (if σ.2 32 o p < 0 then σ.2 15 0 (Int32.toNatClampNeg (-1 - σ.2 32 o p)) else σ.2 32 o p))) o l1 l4 (nI T) (nI (h + 1)) (nI (p + 1)) := by
  have a1 : ¬ nI p < 0 := nI_pos (by omega)
  have a2 : ¬ nI T ≤ nI p := fun z => by have := (nI_leI (by omega) (by omega)).mp z; omega
  have a3 : ¬ nI (S 5 o) ≤ nI p := fun z => by have := (nI_leI (by omega) (by omega)).mp z; omega
  have a4 : ¬ (160 : Int32) ≤ nI h := fun z => by have := (nI_leI (a := 160) (by decide) (by omega)).mp z; omega
  rw [f_X5_valueOf_L63, if_neg a1, if_neg a2, if_neg a3, xb_32, nI_clamp (show p < 2 ^ 31 by omega), if_neg hc, if_neg a4, nI_clamp (show h < 2 ^ 31 by omega), xa_xb, xa_xb, nI_1, nI_1, xb_15]
  by_cases c : σ.2 32 o p < 0
  · rw [if_pos c, if_pos c]
  · rw [if_neg c, if_neg c]
theorem vl_neg (hT : T ≤ S 5 o) (hS : S 5 o ≤ 160) (hp : p < T) (hh : h < 160) (hc : σ.2 32 o p = -100) (n : Nat) (l1 l4 : Int32) : f_X5_valueOf_L63 (n + 1) S (xb σ 16 0 w) o l1 l4 (nI T) (nI (h + 1)) (nI p) = f_X5_valueOf_L63 n S (xb σ 16 0 (upd w h (- w h))) o l1 l4 (nI T) (nI (h + 1)) (nI (p + 1)) := by
  have a1 : ¬ nI p < 0 := nI_pos (by omega)
  have a2 : ¬ nI T ≤ nI p := fun z => by have := (nI_leI (by omega) (by omega)).mp z; omega
  have a3 : ¬ nI (S 5 o) ≤ nI p := fun z => by have := (nI_leI (by omega) (by omega)).mp z; omega
  have a4 : ¬ nI (h + 1) < (1 : Int32) := fun z => by have := (nI_ltI (b := 1) (by omega) (by decide)).mp z; omega
  have a5 : (-100 : Int32) < -(6 : Int32) := by decide
  rw [f_X5_valueOf_L63, if_neg a1, if_neg a2, if_neg a3, xb_32, nI_clamp (show p < 2 ^ 31 by omega), hc, if_pos a5, if_pos rfl, if_neg a4, if_pos rfl, nI_pred, nI_clamp (show h < 2 ^ 31 by omega), xa_xb, xb_at, nI_1]
theorem vl_not (hT : T ≤ S 5 o) (hS : S 5 o ≤ 160) (hp : p < T) (hh : h < 160) (hc : σ.2 32 o p = -11) (n : Nat) (l1 l4 : Int32) : f_X5_valueOf_L63 (n + 1) S (xb σ 16 0 w) o l1 l4 (nI T) (nI (h + 1)) (nI p) = f_X5_valueOf_L63 n S (xb σ 16 0 (upd w h (if w h = 0 then 1 else 0))) o l1 l4 (nI T) (nI (h + 1)) (nI (p + 1)) := by
  have a1 : ¬ nI p < 0 := nI_pos (by omega)
  have a2 : ¬ nI T ≤ nI p := fun z => by have := (nI_leI (by omega) (by omega)).mp z; omega
  have a3 : ¬ nI (S 5 o) ≤ nI p := fun z => by have := (nI_leI (by omega) (by omega)).mp z; omega
  have a4 : ¬ nI (h + 1) < (1 : Int32) := fun z => by have := (nI_ltI (b := 1) (by omega) (by decide)).mp z; omega
  have a5 : (-11 : Int32) < -(6 : Int32) := by decide
  have a6 : ¬ (-11 : Int32) = -100 := by decide
  have t1 : f_X5_truth 1 = 1 := rfl
  have t0 : f_X5_truth 0 = 0 := rfl
  rw [f_X5_valueOf_L63, if_neg a1, if_neg a2, if_neg a3, xb_32, nI_clamp (show p < 2 ^ 31 by omega), hc, if_pos a5, if_neg a6, if_pos rfl, if_neg a4, if_neg a6, nI_pred, nI_clamp (show h < 2 ^ 31 by omega), xa_xb, xa_xb, xb_at, nI_1, t1, t0]
  by_cases c : w h = 0
  · rw [if_pos c, if_pos c]
  · rw [if_neg c, if_neg c]
theorem vl_join (hT : T ≤ S 5 o) (hS : S 5 o ≤ 160) (hp : p < T) (hh : h + 1 < 160) {k : Int32} (hc : σ.2 32 o p = k) (k0 : k < (-(6 : Int32))) (k1 : ¬ k = -100) (k2 : ¬ k = -11) (n : Nat) (l1 l4 : Int32) : f_X5_valueOf_L63 (n + 1) S (xb σ 16 0 w) o l1 l4 (nI T) (nI (h + 1 + 1)) (nI p) = f_X5_valueOf_L63 n S (xb σ 16 0 (upd w h (f_X5_joined (-k) (w h) (w (h + 1))))) o l1 l4 (nI T) (nI (h + 1)) (nI (p + 1)) := by
  have a1 : ¬ nI p < 0 := nI_pos (by omega)
  have a2 : ¬ nI T ≤ nI p := fun z => by have := (nI_leI (by omega) (by omega)).mp z; omega
  have a3 : ¬ nI (S 5 o) ≤ nI p := fun z => by have := (nI_leI (by omega) (by omega)).mp z; omega
  have a4 : ¬ nI (h + 1 + 1) < (2 : Int32) := fun z => by have := (nI_ltI (b := 2) (by omega) (by decide)).mp z; omega
  have e1 : nI (h + 1 + 1) + (-1 : Int32) = nI (h + 1) := by rw [← nI_pred (h + 1), Int32.sub_eq_add_neg]
  rw [f_X5_valueOf_L63, if_neg a1, if_neg a2, if_neg a3, xb_32, nI_clamp (show p < 2 ^ 31 by omega), hc, if_pos k0, if_neg k1, if_neg k2, if_neg a4, e1, nI_pred, nI_clamp (show h < 2 ^ 31 by omega), nI_clamp (show h + 1 < 2 ^ 31 by omega), xa_xb, xb_at, nI_1]
/-- at its end it answers what stands on top -/
theorem vl_end (hS : S 5 o ≤ 160) (hT : T ≤ S 5 o) (hh : h < 160) (n : Nat) (l1 l4 : Int32) : f_X5_valueOf_L63 (n + 1) S (xb σ 16 0 w) o l1 l4 (nI T) (nI (h + 1)) (nI T) = (w h, xb σ 16 0 w) := by
  have a1 : ¬ nI T < 0 := nI_pos (by omega)
  have a2 : nI T ≤ nI T := Int32.le_refl _
  have a3 : ¬ nI (h + 1) ≤ (0 : Int32) := fun z => by have := (nI_leI (b := 0) (by omega) (by decide)).mp z; omega
  rw [f_X5_valueOf_L63, if_neg a1, if_pos a2, if_neg a3, nI_pred, nI_clamp (show h < 2 ^ 31 by omega), xb_at]
end VL
/-- run, these codes push their value and touch nothing below -/
def Seg (c : List Int32) (e : Ev) : Prop := 0 < c.length ∧ ∀ (S : XSh) (σ : XSt) (o T : Nat) (l1 l4 : Int32) (h p : Nat) (w : Nat → Int32) (n : Nat), T ≤ S 5 o → S 5 o ≤ 160 → p + c.length ≤ T → h + c.length ≤ 160 → (∀ j, j < c.length → σ.2 32 o (p + j) = c.getD j 0) → ∃ w', f_X5_valueOf_L63 (n + c.length) S (xb σ 16 0 w) o l1 l4 (nI T) (nI h) (nI p) = f_X5_valueOf_L63 n S (xb σ 16 0 w') o l1 l4 (nI T) (nI (h + 1)) (nI (p + c.length)) ∧ (∀ k, k < h → w' k = w k) ∧ w' h = e (σ.2 15 0)
theorem upd_at (w : Nat → Int32) (k : Nat) (x : Int32) : upd w k x k = x := by unfold upd; rw [if_pos rfl]
theorem upd_ne {w : Nat → Int32} {k j : Nat} {x : Int32} (h : j ≠ k) : upd w k x j = w j := by unfold upd; rw [if_neg h]
theorem Seg.num {x : Int32} (hx : 0 ≤ x) : Seg [x] (fun _ => x) := by
  refine ⟨Nat.zero_lt_one, ?_⟩
  intro S σ o T l1 l4 h p w n hT hS hp hh hc
  have e := hc 0 Nat.zero_lt_one
  simp only [List.length_singleton] at hp hh
  rw [Nat.add_zero] at e
  have e' : σ.2 32 o p = x := e
  have c6 : ¬ σ.2 32 o p < (-(6 : Int32)) := by
    rw [e']
    exact fun z => absurd (Int32.lt_of_le_of_lt hx z) (by decide)
  have c0 : ¬ x < 0 := Int32.not_lt.mpr hx
  have r := vl_push (w := w) hT hS (show p < T by omega) (show h < 160 by omega) c6 n l1 l4
  rw [e', if_neg c0] at r
  exact ⟨_, r, fun k hk => upd_ne (by omega), upd_at _ _ _⟩
theorem nm_tab : ∀ i, i < 6 → ¬ (-1 - nI i) < (-(6 : Int32)) ∧ (-1 - nI i) < 0 ∧ Int32.toNatClampNeg (-1 - (-1 - nI i)) = i := by decide
theorem Seg.name {i : Nat} (hi : i < 6) : Seg [-1 - nI i] (fun v => v i) := by
  refine ⟨Nat.zero_lt_one, ?_⟩
  intro S σ o T l1 l4 h p w n hT hS hp hh hc
  have e := hc 0 Nat.zero_lt_one
  simp only [List.length_singleton] at hp hh
  rw [Nat.add_zero] at e
  have e' : σ.2 32 o p = -1 - nI i := e
  obtain ⟨t1, t2, t3⟩ := nm_tab i hi
  have c6 : ¬ σ.2 32 o p < (-(6 : Int32)) := by rw [e']; exact t1
  have r := vl_push (w := w) hT hS (show p < T by omega) (show h < 160 by omega) c6 n l1 l4
  rw [e', if_pos t2, t3] at r
  exact ⟨_, r, fun k hk => upd_ne (by omega), upd_at _ _ _⟩
theorem Seg.one {c : List Int32} {e : Ev} (hs : Seg c e) (k : Int32) (f : Int32 → Int32) (hk : ∀ (S : XSh) (σ : XSt) (o T p h : Nat) (w : Nat → Int32) (n : Nat) (l1 l4 : Int32), T ≤ S 5 o → S 5 o ≤ 160 → p < T → h < 160 → σ.2 32 o p = k → f_X5_valueOf_L63 (n + 1) S (xb σ 16 0 w) o l1 l4 (nI T) (nI (h + 1)) (nI p) = f_X5_valueOf_L63 n S (xb σ 16 0 (upd w h (f (w h)))) o l1 l4 (nI T) (nI (h + 1)) (nI (p + 1))) : Seg (c ++ [k]) (fun v => f (e v)) := by
  have hl : (c ++ [k]).length = c.length + 1 := by rw [List.length_append]; rfl
  refine ⟨by omega, ?_⟩
  intro S σ o T l1 l4 h p w n hT hS hp hh hc
  rw [hl] at hp hh hc ⊢
  obtain ⟨w1, r1, k1, v1⟩ := hs.2 S σ o T l1 l4 h p w (n + 1) hT hS (by omega) (by omega) (fun j hj => by rw [hc j (by omega), gd_l hj])
  have e1 : σ.2 32 o (p + c.length) = k := by
    have := hc (c.length + 0) (by omega)
    rw [gd_r 0] at this
    exact this
  have r2 := hk S σ o T (p + c.length) h w1 n l1 l4 hT hS (by omega) (by have := hs.1; omega) e1
  rw [v1] at r2
  refine ⟨_, ?_, fun j hj => (upd_ne (by omega)).trans (k1 j hj), upd_at _ _ (f (e (σ.2 15 0)))⟩
  rw [show n + (c.length + 1) = n + 1 + c.length by omega, r1, r2]
  rfl
theorem Seg.neg {c : List Int32} {e : Ev} (hs : Seg c e) : Seg (c ++ [-100]) (fun v => - e v) := hs.one (-100) (fun x => -x) (fun S σ o T p h w n l1 l4 a b c d f => vl_neg a b c d f n l1 l4)
theorem Seg.not {c : List Int32} {e : Ev} (hs : Seg c e) : Seg (c ++ [-11]) (fun v => if e v = 0 then 1 else 0) := hs.one (-11) (fun x => if x = 0 then 1 else 0) (fun S σ o T p h w n l1 l4 a b c d f => vl_not a b c d f n l1 l4)
def IsOp (k : Int32) : Prop := k = -9 ∨ k = -10 ∨ k = -60 ∨ k = -61 ∨ k = -43 ∨ k = -45 ∨ k = -42
theorem IsOp.out {k : Int32} (h : IsOp k) : k < (-(6 : Int32)) ∧ ¬ k = -100 ∧ ¬ k = -11 := by
  rcases h with rfl | rfl | rfl | rfl | rfl | rfl | rfl <;> decide
theorem isop_jn {k : Int32} (h : IsOp k) (a b : Int32) : f_X5_joined (-k) a b = jn k a b := by
  have t1 : f_X5_truth 1 = 1 := rfl
  have t0 : f_X5_truth 0 = 0 := rfl
  unfold f_X5_joined jn
  rw [t1, t0]
  rcases h with rfl | rfl | rfl | rfl | rfl | rfl | rfl
  · by_cases x : a = 0 <;> by_cases y : b = 0 <;> simp (decide := true) [x, y]
  · by_cases x : a = 0 <;> by_cases y : b = 0 <;> simp (decide := true) [x, y]
  · by_cases x : a < b
    · have y := Int32.not_le.mpr x
      simp (decide := true) [x, y]
    · have y := Int32.not_lt.mp x
      simp (decide := true) [x, y]
  · by_cases x : a = b <;> simp (decide := true) [x]
  · simp (decide := true)
  · simp (decide := true)
  · simp (decide := true)
theorem Seg.two {c1 c2 : List Int32} {e1 e2 : Ev} (h1 : Seg c1 e1) (h2 : Seg c2 e2) {k : Int32} (hk : IsOp k) : Seg (c1 ++ c2 ++ [k]) (fun v => jn k (e1 v) (e2 v)) := by
  have hl : (c1 ++ c2 ++ [k]).length = c1.length + c2.length + 1 := by rw [List.length_append, List.length_append]; rfl
  have hl2 : (c1 ++ c2).length = c1.length + c2.length := List.length_append
  have l1 := h1.1
  have l2 := h2.1
  refine ⟨by omega, ?_⟩
  intro S σ o T x1 x4 h p w n hT hS hp hh hc
  rw [hl] at hp hh hc ⊢
  obtain ⟨w1, r1, k1, v1⟩ := h1.2 S σ o T x1 x4 h p w (n + 1 + c2.length) hT hS (by omega) (by omega) (fun j hj => by rw [hc j (by omega), gd_l (by omega), gd_l hj])
  obtain ⟨w2, r2, k2, v2⟩ := h2.2 S σ o T x1 x4 (h + 1) (p + c1.length) w1 (n + 1) hT hS (by omega) (by omega) (fun j hj => by rw [Nat.add_assoc, hc (c1.length + j) (by omega), gd_l (by omega), gd_r])
  have e3 : σ.2 32 o (p + c1.length + c2.length) = k := by
    have := hc ((c1 ++ c2).length + 0) (by omega)
    rw [gd_r 0, hl2, Nat.add_zero, ← Nat.add_assoc] at this
    exact this
  obtain ⟨o1, o2, o3⟩ := hk.out
  have r3 := vl_join (w := w2) hT hS (show p + c1.length + c2.length < T by omega) (show h + 1 < 160 by omega) e3 o1 o2 o3 n x1 x4
  rw [isop_jn hk, k2 h (by omega), v1, v2] at r3
  refine ⟨_, ?_, fun j hj => (upd_ne (by omega)).trans ((k2 j (by omega)).trans (k1 j hj)), upd_at _ _ _⟩
  rw [show n + (c1.length + c2.length + 1) = n + 1 + c2.length + c1.length by omega, r1, r2, r3, Nat.add_assoc, Nat.add_assoc, Nat.add_assoc]
/-- every list that the grammar gives is one -/
def SegR (f : Nat → Rs) : Prop := ∀ p r, f p = .ok r → Seg r.1 r.2.1
theorem di_num {c : Int32} (h : isDi c = true) : ∃ d : Nat, d < 10 ∧ c - 48 = nI d := by
  have h2 := (di_iff c).mp h
  obtain ⟨j, hj, rfl⟩ := nI_of_rg (N := 57) (by decide) (Int32.le_trans (by decide) h2.1) h2.2
  have h48 : 48 ≤ j := (nI_leI (a := 48) (by decide) (by omega)).mp h2.1
  refine ⟨j - 48, by omega, ?_⟩
  have : nI j = nI (j - 48) + nI 48 := by rw [nI_add]; congr 1; omega
  rw [this]
  exact Int32.add_sub_cancel _ _
theorem num_lt (b : Nat → Int32) (a : Nat) : ∀ m, (∀ i, a ≤ i → i < a + m → isDi (b i) = true) → ∃ k : Nat, k < 10 ^ m ∧ numN b a m = nI k
  | 0, _ => ⟨0, by decide, rfl⟩
  | m + 1, h => by
    obtain ⟨k, hk, e⟩ := num_lt b a m (fun i h1 h2 => h i h1 (by omega))
    obtain ⟨d, hd, e2⟩ := di_num (h (a + m) (by omega) (by omega))
    refine ⟨k * 10 + d, by rw [Nat.pow_succ]; omega, ?_⟩
    rw [numN, e, e2, show (10 : Int32) = nI 10 from rfl, show nI k * nI 10 = nI (k * 10) from (Int32.ofNat_mul k 10).symm, nI_add]
theorem tk_num {t : TB} {p : Nat} (h : (tk t p).1 = 2) : 0 ≤ (tk t p).2.2.1.toInt32 := by
  unfold tk at h ⊢
  generalize runN t isBl 162 p = a at h ⊢
  unfold tkA at h ⊢
  split
  · next q =>
    rw [if_pos q] at h
    split
    · next q1 => rw [if_pos q1] at h; exact absurd h (by decide : ¬ (1 : Int32) = 2)
    · next q1 =>
      rw [if_neg q1] at h
      split
      · next q2 =>
        rw [if_pos q2] at h
        have h4 : ¬ 4 < runN t isDi 162 a - a := fun z => by
          dsimp only at h
          rw [if_pos z] at h
          exact absurd h (by decide)
        show 0 ≤ (nv t.1 a (runN t isDi 162 a - a)).toInt32
        rw [num_nv _ _ _ (by omega)]
        obtain ⟨k, hk, e⟩ := num_lt t.1 a (runN t isDi 162 a - a) (fun i h1 h2 => runN_all t isDi 162 a i h1 (by omega))
        have : 10 ^ (runN t isDi 162 a - a) ≤ 10 ^ 4 := Nat.pow_le_pow_right (by decide) (by omega)
        rw [e]
        exact nI_pos' (by omega)
      · next q2 =>
        rw [if_neg q2] at h
        split
        · next q3 => rw [if_pos q3] at h; exact absurd h (by decide : ¬ (3 : Int32) = 2)
        · next q3 => rw [if_neg q3] at h; exact absurd h (by decide : ¬ (4 : Int32) = 2)
  · next q => rw [if_neg q] at h; exact absurd h (by decide : ¬ (0 : Int32) = 2)
theorem SegR.one {t : TB} {al : Bool} {rO rE : Nat → Rs} (hO : al = true → SegR rO) (hE : al = true → SegR rE) : SegR (oneG t al rO rE) := by
  intro p r h
  unfold oneG at h
  split at h
  · split at h
    · next q =>
      cases e : rO (tk t p).2.2.2 with
      | error x => rw [e] at h; cases h
      | ok r' =>
        rw [e] at h
        cases h
        exact (hO q _ _ e).neg
    · cases h
  · split at h
    · split at h
      · next q =>
        cases e : rE (tk t p).2.2.2 with
        | error x => rw [e] at h; cases h
        | ok r' =>
          rw [e] at h
          dsimp only at h
          split at h
          · cases h; exact hE q _ r' e
          · cases h
      · cases h
    · split at h
      · next q => cases h; exact Seg.num (tk_num q)
      · split at h
        · cases e : nameIx (tk t p).2.2.1 with
          | none => rw [e] at h; cases h
          | some i => rw [e] at h; cases h; exact Seg.name (nameIx_lt e)
        · cases h
def OpIs (op : Tk → Option Int32) : Prop := ∀ T k, op T = some k → IsOp k
theorem SegR.loop {t : TB} {op : Tk → Option Int32} {sub : Nat → Rs} (ho : OpIs op) (hs : SegR sub) : ∀ (n : Nat) (c : List Int32) (e : Ev) (p : Nat) (r : List Int32 × Ev × Nat), Seg c e → loopG t op sub n c e p = .ok r → Seg r.1 r.2.1 := by
  intro n
  induction n with
  | zero => intro c e p r _ h; cases h
  | succ n ih =>
    intro c e p r he h
    unfold loopG at h
    cases e1 : op (tk t p) with
    | none => rw [e1] at h; cases h; exact he
    | some k =>
      rw [e1] at h
      dsimp only at h
      cases e2 : sub (tk t p).2.2.2 with
      | error x => rw [e2] at h; cases h
      | ok r2 =>
        rw [e2] at h
        exact ih _ _ _ r (he.two (hs _ _ e2) (ho _ _ e1)) h
theorem SegR.chain {t : TB} {op : Tk → Option Int32} {sub : Nat → Rs} (ho : OpIs op) (hs : SegR sub) : SegR (chainG t op sub) := by
  intro p r h
  unfold chainG at h
  cases e : sub p with
  | error x => rw [e] at h; cases h
  | ok r2 => rw [e] at h; exact SegR.loop ho hs _ _ _ _ _ (hs _ _ e) h
theorem is_mul : OpIs opMul := by
  intro T k h
  unfold opMul at h
  split at h
  · cases h; unfold IsOp; decide
  · cases h
theorem is_add : OpIs opAdd := by
  intro T k h
  unfold opAdd at h
  split at h
  · cases h; unfold IsOp; decide
  · split at h
    · cases h; unfold IsOp; decide
    · cases h
theorem is_and : OpIs opAnd := by
  intro T k h
  unfold opAnd at h
  split at h
  · cases h; unfold IsOp; decide
  · cases h
theorem is_or : OpIs opOr := by
  intro T k h
  unfold opOr at h
  split at h
  · cases h; unfold IsOp; decide
  · cases h
theorem SegR.not {t : TB} {al : Bool} {rN add : Nat → Rs} (hN : al = true → SegR rN) (hA : SegR add) : SegR (notG t al rN add) := by
  intro p r h
  unfold notG at h
  split at h
  · split at h
    · next q =>
      cases e : rN (tk t p).2.2.2 with
      | error x => rw [e] at h; cases h
      | ok r' =>
        rw [e] at h
        cases h
        exact (hN q _ _ e).not
    · cases h
  · cases e : add p with
    | error x => rw [e] at h; cases h
    | ok r1 =>
      rw [e] at h
      dsimp only at h
      split at h
      · cases e2 : add (tk t r1.2.2).2.2.2 with
        | error x => rw [e2] at h; cases h
        | ok r2 =>
          rw [e2] at h
          cases h
          refine (hA _ _ e).two (hA _ _ e2) ?_
          unfold IsOp
          by_cases c : (tk t r1.2.2).2.2.1 = 60
          · rw [if_pos c]; decide
          · rw [if_neg c]; decide
      · cases h; exact hA _ _ e
theorem gram_seg (t : TB) : ∀ k, SegR (gram t k).1 ∧ SegR (gram t k).2.1 ∧ SegR (gram t k).2.2
  | 0 => by
    have h1 : SegR (oneG t false (fun _ => .error 0) (fun _ => .error 0)) := SegR.one (al := false) (fun z => absurd z (by decide)) (fun z => absurd z (by decide))
    have h2 : SegR (notG t false (fun _ => .error 0) (addG t (oneG t false (fun _ => .error 0) (fun _ => .error 0)))) := SegR.not (al := false) (fun z => absurd z (by decide)) (SegR.chain is_add (SegR.chain is_mul h1))
    exact ⟨h1, SegR.chain is_or (SegR.chain is_and h2), h2⟩
  | k + 1 => by
    obtain ⟨i1, i2, i3⟩ := gram_seg t k
    have h1 : SegR (oneG t true (gram t k).1 (gram t k).2.1) := SegR.one (al := true) (fun _ => i1) (fun _ => i2)
    have h2 : SegR (notG t true (gram t k).2.2 (addG t (oneG t true (gram t k).1 (gram t k).2.1))) := SegR.not (al := true) (fun _ => i3) (SegR.chain is_add (SegR.chain is_mul h1))
    exact ⟨h1, SegR.chain is_or (SegR.chain is_and h2), h2⟩
theorem part_seg (t : TB) (key : Int64) : SegR (partG t key) := by
  intro p r h
  unfold partG at h
  split at h
  · cases e : (gram t 5).2.1 (tk t p).2.2.2 with
    | error x => rw [e] at h; cases h
    | ok r1 =>
      rw [e] at h
      dsimp only at h
      split at h
      · cases h; exact (gram_seg t 5).2.1 _ r1 e
      · cases h
  · cases h
theorem text_seg (t : TB) {r : (List Int32 × Ev) × (List Int32 × Ev) × (List Int32 × Ev)} (h : textG t = .ok r) : Seg r.1.1 r.1.2 ∧ Seg r.2.1.1 r.2.1.2 ∧ Seg r.2.2.1 r.2.2.2 := by
  unfold textG at h
  cases e1 : partG t 2436392 0 with
  | error x => rw [e1] at h; cases h
  | ok a =>
    rw [e1] at h
    dsimp only at h
    cases e2 : partG t 8863997 a.2.2 with
    | error x => rw [e2] at h; cases h
    | ok b =>
      rw [e2] at h
      dsimp only at h
      cases e3 : partG t 307058 b.2.2 with
      | error x => rw [e3] at h; cases h
      | ok c =>
        rw [e3] at h
        dsimp only at h
        split at h
        · cases h; exact ⟨part_seg t _ _ _ e1, part_seg t _ _ _ e2, part_seg t _ _ _ e3⟩
        · cases h
/-- a clause of a text, valued -/
theorem Seg.run {c : List Int32} {e : Ev} (hs : Seg c e) {S : XSh} {σ : XSt} {o p : Nat} (hS : S 5 o ≤ 160) (hp : p + c.length ≤ S 5 o) (hc : ∀ j, j < c.length → σ.2 32 o (p + j) = c.getD j 0) (l1 l4 : Int32) : (f_X5_valueOf_L63 162 S σ o l1 l4 (nI (p + c.length)) 0 (nI p)).1 = e (σ.2 15 0) := by
  have hl := hs.1
  obtain ⟨w, r, _, v⟩ := hs.2 S σ o (p + c.length) l1 l4 0 p (σ.2 16 0) (162 - c.length) hp hS (Nat.le_refl _) (by omega) hc
  have e0 : xb σ 16 0 (σ.2 16 0) = σ := by
    refine Prod.ext rfl ?_
    funext c i
    show up3a σ.2 16 0 (σ.2 16 0) c i = _
    by_cases q : c = 16 ∧ i = 0
    · rw [q.1, q.2, up3a_self]
    · rw [up3a_other _ _ q]
  rw [show 162 - c.length + c.length = 162 by omega, e0] at r
  rw [show (0 : Int32) = nI 0 from rfl, r, show 162 - c.length = 161 - c.length + 1 by omega, vl_end hS hp (by decide), v]
