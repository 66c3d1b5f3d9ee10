/-! writers: image -/
theorem mp_at (τ : MSt) (k : Nat) (x : Int32) : (mp τ k x).1 k = x := upd_at τ.1 k x
theorem become_is (S : XSh) (σ : XSt) (o p : Nat) (h : p ≠ o) : (f_X0_become S σ o p).1 = σ.1 ∧ (∀ c i, ¬ (20 ≤ c ∧ c ≤ 22 ∧ i = o) → (f_X0_become S σ o p).2 c i = σ.2 c i) ∧ (f_X0_become S σ o p).2 20 o = va_cpy (σ.2 20 p) (σ.2 20 o) 0 0 12 ∧ (f_X0_become S σ o p).2 21 o = va_cpy (σ.2 21 p) (σ.2 21 o) 0 0 12 ∧ (f_X0_become S σ o p).2 22 o = va_cpy (σ.2 22 p) (σ.2 22 o) 0 0 3 := by
  have c0 : (Int32.toNatClampNeg (0 : Int32)) = 0 := rfl
  have c12 : (Int32.toNatClampNeg (12 : Int32)) = 12 := rfl
  have c3 : (Int32.toNatClampNeg (3 : Int32)) = 3 := rfl
  unfold f_X0_become
  rw [c0, c12, c3]
  refine ⟨rfl, fun c i hc => ?_, ?_, ?_, ?_⟩
  · rw [xb_2 (by omega), xb_2 (by omega), xb_2 (by omega)]
  · rw [xb_2 (by omega), xb_2 (by omega)]
    exact up3a_self _ _ _ _
  · rw [xb_2 (by omega)]
    refine (up3a_self _ _ _ _).trans ?_
    rw [xb_2 (by omega), xb_2 (by omega)]
  · refine (up3a_self _ _ _ _).trans ?_
    rw [xb_2 (by omega), xb_2 (by omega), xb_2 (by omega), xb_2 (by omega)]
theorem va_first (f g : Nat → Int32) (n i : Nat) (h : i < n) : va_cpy f g 0 0 n i = f i := by
  unfold va_cpy
  rw [if_pos ⟨Nat.zero_le _, by omega⟩]
  congr 1
  omega
theorem imL97 : ∀ (n k : Nat) (τ : MSt), k ≤ 3 → 3 - k < n → ∃ τ1, f_X10_image_L97 n τ (nI k) = (τ.1 26, τ1) ∧ τ1.1 = τ.1 ∧ (∀ j, j ≠ 51 → τ1.2.2 j = τ.2.2 j) ∧ ∀ i, i < 3 → τ1.2.2 51 i = if k ≤ i then τ.2.2 15 i else τ.2.2 51 i := by
  intro n
  induction n with
  | zero => intro k τ _ h; exact absurd h (Nat.not_lt_zero _)
  | succ n ih =>
    intro k τ hk hn
    rw [f_X10_image_L97]
    by_cases c : k = 3
    · subst c
      rw [if_pos (by decide : (3 : Int32) ≤ nI 3)]
      exact ⟨τ, rfl, rfl, fun _ _ => rfl, fun i hi => by rw [if_neg (by omega)]⟩
    · have c1 : ¬ (3 : Int32) ≤ nI k := fun q => by have := (nI_leI (a := 3) (by decide) (by omega)).mp q; omega
      rw [if_neg c1, nI_clamp (show k < 2 ^ 31 by omega), nI_1]
      obtain ⟨τ1, e1, e2, e3, e4⟩ := ih (k + 1) (ma τ 51 k (τ.2.2 15 k)) (by omega) (by omega)
      refine ⟨τ1, e1, e2, fun j hj => (e3 j hj).trans (ma_j hj), fun i hi => ?_⟩
      rw [e4 i hi, ma_j (by decide), ma_k]
      by_cases q : i = k
      · rw [if_neg (by omega), if_pos (by omega), q, upd_at]
      · rw [upd_ne q]
        by_cases q2 : k ≤ i
        · rw [if_pos (by omega), if_pos q2]
        · rw [if_neg (by omega), if_neg q2]
theorem imL59 : ∀ (n k : Nat) (τ : MSt), k ≤ 12 → 12 - k < n → ∃ τ1, f_X10_image_L59 n τ (nI k) = (τ.1 26, τ1) ∧ τ1.1 = τ.1 ∧ (∀ j, ¬ (49 ≤ j ∧ j ≤ 51) → τ1.2.2 j = τ.2.2 j) ∧ (∀ i, i < 12 → τ1.2.2 49 i = (if k ≤ i then τ.2.2 13 i else τ.2.2 49 i) ∧ τ1.2.2 50 i = if k ≤ i then τ.2.2 14 i else τ.2.2 50 i) ∧ ∀ i, i < 3 → τ1.2.2 51 i = τ.2.2 15 i := by
  intro n
  induction n with
  | zero => intro k τ _ h; exact absurd h (Nat.not_lt_zero _)
  | succ n ih =>
    intro k τ hk hn
    rw [f_X10_image_L59]
    by_cases c : k = 12
    · subst c
      rw [if_pos (by decide : (12 : Int32) ≤ nI 12)]
      obtain ⟨τ1, e1, e2, e3, e4⟩ := imL97 5 0 τ (Nat.zero_le _) (by decide)
      exact ⟨τ1, e1, e2, fun j hj => e3 j (by omega), fun i hi => by rw [if_neg (by omega), if_neg (by omega), e3 49 (by decide), e3 50 (by decide)]; exact ⟨rfl, rfl⟩, fun i hi => by rw [e4 i hi, if_pos (Nat.zero_le _)]⟩
    · have c1 : ¬ (12 : Int32) ≤ nI k := fun q => by have := (nI_leI (a := 12) (by decide) (by omega)).mp q; omega
      rw [if_neg c1, nI_clamp (show k < 2 ^ 31 by omega), nI_1, ma_j (show 14 ≠ 49 by decide)]
      obtain ⟨τ1, e1, e2, e3, e4, e5⟩ := ih (k + 1) (ma (ma τ 49 k (τ.2.2 13 k)) 50 k (τ.2.2 14 k)) (by omega) (by omega)
      refine ⟨τ1, e1, e2, fun j hj => (e3 j hj).trans ((ma_j (by omega)).trans (ma_j (by omega))), fun i hi => ?_, fun i hi => by rw [e5 i hi, ma_j (by decide), ma_j (by decide)]⟩
      obtain ⟨a, b⟩ := e4 i hi
      rw [a, b, ma_j (show 13 ≠ 50 by decide), ma_j (show 13 ≠ 49 by decide), ma_j (show 14 ≠ 50 by decide), ma_j (show 14 ≠ 49 by decide), ma_j (show 49 ≠ 50 by decide), ma_k, ma_k, ma_j (show 50 ≠ 49 by decide)]
      by_cases q : i = k
      · have k1 : ¬ k + 1 ≤ i := by omega
        have k2 : k ≤ i := by omega
        rw [if_neg k1, if_neg k1, if_pos k2, if_pos k2, q, upd_at, upd_at]
        exact ⟨rfl, rfl⟩
      · rw [upd_ne q, upd_ne q]
        by_cases q2 : k ≤ i
        · have k1 : k + 1 ≤ i := by omega
          rw [if_pos k1, if_pos k1, if_pos q2, if_pos q2]; exact ⟨rfl, rfl⟩
        · have k1 : ¬ k + 1 ≤ i := by omega
          rw [if_neg k1, if_neg k1, if_neg q2, if_neg q2]; exact ⟨rfl, rfl⟩
theorem imL31 {w : Nat} (hw : w ≤ 8) : ∀ (n k : Nat) (τ : MSt), τ.1 12 = nI w → k ≤ w → w - k < n → ∃ τ1, f_X10_image_L31 n τ (nI k) = (τ.1 26, τ1) ∧ τ1.1 = τ.1 ∧ (∀ j, ¬ (48 ≤ j ∧ j ≤ 51) → τ1.2.2 j = τ.2.2 j) ∧ (∀ i, i < w → τ1.2.2 48 i = if k ≤ i then τ.2.2 9 i else τ.2.2 48 i) ∧ (∀ i, i < 12 → τ1.2.2 49 i = τ.2.2 13 i ∧ τ1.2.2 50 i = τ.2.2 14 i) ∧ ∀ i, i < 3 → τ1.2.2 51 i = τ.2.2 15 i := by
  intro n
  induction n with
  | zero => intro k τ _ _ h; exact absurd h (Nat.not_lt_zero _)
  | succ n ih =>
    intro k τ ew hk hn
    rw [f_X10_image_L31, ew]
    by_cases c : k = w
    · subst c
      rw [if_pos (Int32.le_refl _)]
      obtain ⟨τ1, e1, e2, e3, e4, e5⟩ := imL59 14 0 τ (Nat.zero_le _) (by decide)
      exact ⟨τ1, e1, e2, fun j hj => e3 j (by omega), fun i hi => by rw [if_neg (by omega), e3 48 (by decide)], fun i hi => by obtain ⟨a, b⟩ := e4 i hi; rw [a, b, if_pos (Nat.zero_le _), if_pos (Nat.zero_le _)]; exact ⟨rfl, rfl⟩, e5⟩
    · have c1 : ¬ nI w ≤ nI k := fun q => by have := (nI_leI (by omega) (by omega)).mp q; omega
      rw [if_neg c1, nI_clamp (show k < 2 ^ 31 by omega), nI_1]
      obtain ⟨τ1, e1, e2, e3, e4, e5, e6⟩ := ih (k + 1) (ma τ 48 k (τ.2.2 9 k)) ew (by omega) (by omega)
      refine ⟨τ1, e1, e2, fun j hj => (e3 j hj).trans (ma_j (by omega)), fun i hi => ?_, fun i hi => by rw [(e5 i hi).1, (e5 i hi).2, ma_j (by decide), ma_j (by decide)]; exact ⟨rfl, rfl⟩, fun i hi => by rw [e6 i hi, ma_j (by decide)]⟩
      rw [e4 i hi, ma_j (by decide), ma_k]
      by_cases q : i = k
      · rw [if_neg (by omega), if_pos (by omega), q, upd_at]
      · rw [upd_ne q]
        by_cases q2 : k ≤ i
        · rw [if_pos (by omega), if_pos q2]
        · rw [if_neg (by omega), if_neg q2]
/-- the class's image, once its wines are kept -/
def imF (S : XSh) (σ : XSt) : Int32 × XSt := (((f_X0_become S (xp σ 2 0 2 (σ.1 9 0 1)) 1 0).1 3 0 5), (xp (xp (f_X0_become S (xp σ 2 0 2 (σ.1 9 0 1)) 1 0) 2 0 3 ((f_X0_become S (xp σ 2 0 2 (σ.1 9 0 1)) 1 0).1 9 0 6)) 2 0 4 ((f_X0_become S (xp σ 2 0 2 (σ.1 9 0 1)) 1 0).1 3 0 5)))
theorem imL2 {S : XSh} {w : Nat} (hw : w ≤ 8) : ∀ (n k : Nat) (σ : XSt), σ.1 9 0 1 = nI w → k ≤ w → w - k < n → ∃ σ1, f_X9_image_L2 n S σ (nI k) = imF S σ1 ∧ σ1.1 = σ.1 ∧ (∀ c i, ¬ (c = 31 ∧ i = 0) → σ1.2 c i = σ.2 c i) ∧ ∀ i, i < w → σ1.2 31 0 i = if k ≤ i then σ.1 8 i 5 else σ.2 31 0 i := by
  intro n
  induction n with
  | zero => intro k σ _ _ h; exact absurd h (Nat.not_lt_zero _)
  | succ n ih =>
    intro k σ ew hk hn
    rw [f_X9_image_L2]
    by_cases c : k = w
    · subst c
      have cw : σ.1 9 0 1 ≤ nI k := by rw [ew]; exact Int32.le_refl _
      rw [if_pos cw]
      exact ⟨σ, rfl, rfl, fun _ _ _ => rfl, fun i hi => by rw [if_neg (by omega)]⟩
    · have c1 : ¬ σ.1 9 0 1 ≤ nI k := fun q => by rw [ew] at q; have := (nI_leI (by omega) (by omega)).mp q; omega
      rw [if_neg c1, nI_clamp (show k < 2 ^ 31 by omega), nI_1]
      obtain ⟨σ1, e1, e2, e3, e4⟩ := ih (k + 1) (xa σ 31 0 k (σ.1 8 k 5)) ew (by omega) (by omega)
      refine ⟨σ1, e1, e2, fun c i hc => (e3 c i hc).trans (xa_2 hc), fun i hi => ?_⟩
      rw [e4 i hi, xa_u]
      by_cases q : i = k
      · rw [if_neg (by omega), if_pos (by omega), q, upd_at]
      · rw [upd_ne q]
        by_cases q2 : k ≤ i
        · rw [if_pos (by omega), if_pos q2]
          rfl
        · rw [if_neg (by omega), if_neg q2]
section W8
variable {S : XSh} {σ : XSt} {τ : MSt}
theorem w_image (h : Al S σ τ) : Wr S (f_X9_image S σ) (f_X10_image τ) := by
  obtain ⟨hR, hX, hM⟩ := h
  have h8 := hX.nw.2
  obtain ⟨s, hs, es⟩ := hM.ns
  obtain ⟨r, hr, er⟩ := hR.r.2.2.1
  have h6 := hX.nr.2
  have e5 : σ.1 3 0 5 = nI s := hR.s.1.symm.trans es
  obtain ⟨σ1, a1, a2, a3, a4⟩ := imL2 (S := S) h8 10 0 σ hX.nw.1 (Nat.zero_le _) (by omega)
  have ea : f_X9_image S σ = imF S σ1 := a1
  have t0 : ∃ τ0, τ0.1 12 = nI (S 0 0) ∧ f_X10_image τ = f_X10_image_L31 10 τ0 (nI 0) ∧ τ0.1 26 = τ.1 26 ∧ τ0.1 52 = 1 ∧ τ0.1 53 = nI (S 0 0) ∧ τ0.1 54 = τ.1 26 ∧ τ0.1 55 = τ.1 4 ∧ (∀ j, j < 52 → τ0.1 j = τ.1 j) ∧ τ0.2.2 = τ.2.2 := by
    refine ⟨_, ?_, rfl, ?_, ?_, ?_, ?_, ?_, fun j hj => ?_, rfl⟩
    · rw [mp_j (by decide), mp_j (by decide), mp_j (by decide), mp_j (by decide)]; exact hR.w.1
    · rw [mp_j (by decide), mp_j (by decide), mp_j (by decide), mp_j (by decide)]
    · rw [mp_j (by decide), mp_j (by decide), mp_j (by decide), mp_at]
    · rw [mp_j (by decide), mp_j (by decide), mp_at, mp_j (by decide)]; exact hR.w.1
    · rw [mp_j (by decide), mp_at, mp_j (by decide), mp_j (by decide)]
    · rw [mp_at, mp_j (by decide), mp_j (by decide), mp_j (by decide)]
    · rw [mp_j (by omega), mp_j (by omega), mp_j (by omega), mp_j (by omega)]
  obtain ⟨τ0, u0, u1, u2, u3, u4, u5, u6, u7, u8⟩ := t0
  obtain ⟨τ1, b1, b2, b3, b4, b5, b6⟩ := imL31 h8 10 0 τ0 u0 (Nat.zero_le _) (by omega)
  rw [u8] at b3 b4 b5 b6
  rw [ea, u1, b1, u2]
  obtain ⟨c1, c2, c3, c4, c5⟩ := become_is S (xp σ1 2 0 2 (σ1.1 9 0 1)) 1 0 (by decide)
  unfold imF
  generalize f_X0_become S (xp σ1 2 0 2 (σ1.1 9 0 1)) 1 0 = F at c1 c2 c3 c4 c5
  have F1 (c : Nat) (hc : c ≠ 2) : F.1 c = σ.1 c := by rw [c1, xp_c hc, a2]
  have F2 (c i : Nat) (h1 : ¬ (20 ≤ c ∧ c ≤ 22 ∧ i = 1)) (h2 : ¬ (c = 31 ∧ i = 0)) : F.2 c i = σ.2 c i := (c2 c i h1).trans (a3 c i h2)
  have z1 (c : Nat) (hc : c ≠ 2) : (xp (xp F 2 0 3 (F.1 9 0 6)) 2 0 4 (F.1 3 0 5)).1 c = σ.1 c := by rw [xp_c hc, xp_c hc, F1 c hc]
  have z24 : (xp (xp F 2 0 3 (F.1 9 0 6)) 2 0 4 (F.1 3 0 5)).1 2 0 4 = nI s := by rw [xp_s, F1 3 (by decide), e5]
  have z23 : (xp (xp F 2 0 3 (F.1 9 0 6)) 2 0 4 (F.1 3 0 5)).1 2 0 3 = nI r := by rw [xp_o (by omega), xp_s, F1 9 (by decide), er]
  have z22 : (xp (xp F 2 0 3 (F.1 9 0 6)) 2 0 4 (F.1 3 0 5)).1 2 0 2 = nI (S 0 0) := by rw [xp_o (by omega), xp_o (by omega), c1, xp_s, a2, hX.nw.1]
  have z2 : (xp (xp F 2 0 3 (F.1 9 0 6)) 2 0 4 (F.1 3 0 5)).2 = F.2 := rfl
  have zc (c : Nat) (h1 : ¬ (20 ≤ c ∧ c ≤ 22)) (h2 : c ≠ 31) : F.2 c = σ.2 c := funext (fun i => F2 c i (by omega) (by omega))
  have f1 : (F.1 3 0 5) = τ.1 26 := by rw [F1 3 (by decide), e5, es]
  refine ⟨f1, ?_⟩
  show Al S (xp (xp F 2 0 3 (F.1 9 0 6)) 2 0 4 (F.1 3 0 5)) τ1
  generalize xp (xp F 2 0 3 (F.1 9 0 6)) 2 0 4 (F.1 3 0 5) = σ2 at z1 z24 z23 z22 z2
  have v : Dv τ τ1 := ⟨by rw [b2, u2], fun j hj => b3 j (by omega)⟩
  have m1 (j : Nat) (hj : j < 52) : τ1.1 j = τ.1 j := by rw [b2, u7 j hj]
  refine ⟨⟨hR.w.tr (z1 8 (by decide)) (m1 12 (by decide)) (fun j a b => b3 j (by omega)), hR.b.tr (z1 1 (by decide)) v (m1 20 (by decide)) (b3 10 (by omega)), hR.s.tr (z1 3 (by decide)) (fun c a b => by rw [z2, zc c (by omega) (by omega)]) v, hR.d.tr (z1 1 (by decide)) v, ⟨?_, ?_, ?_⟩, Or.inr ⟨?_, ?_, ?_, ?_, ?_, ?_, ?_, ?_, ?_, fun i hi => ?_⟩, hR.r.tr (by rw [z1 9 (by decide)]) (z1 5 (by decide)) (by rw [z2, zc 32 (by omega) (by omega)]) (m1 3 (by decide)) (m1 4 (by decide)) v, hR.t.tr (by rw [z1 4 (by decide)]) (by rw [z2, zc 28 (by omega) (by omega)]) (m1 6 (by decide)) (b3 5 (by omega)), hR.g.tr (z1 7 (by decide)) v (fun j a b => b3 j (by omega)), hR.h.tr (z1 6 (by decide)) (by rw [z2, zc 30 (by omega) (by omega)]) (fun j a b => b3 j (by omega))⟩, ?_, ?_⟩
  · rw [z2, F2 20 0 (by omega) (by omega), b3 13 (by omega)]; exact hR.k.1
  · rw [z2, F2 21 0 (by omega) (by omega), b3 14 (by omega)]; exact hR.k.2.1
  · rw [z2, F2 22 0 (by omega) (by omega), b3 15 (by omega)]; exact hR.k.2.2
  · rw [b2, u3]; exact n10
  · rw [z24]; exact nI_m1 (by omega)
  · rw [z24, b2, u5, es]
  · rw [z22, b2, u4]
  · rw [z23, b2, u6, hR.r.2.1, er]
  · exact ⟨r, hr, z23⟩
  · intro i hi
    rw [z2, c3, va_first _ _ _ _ hi, (b5 i hi).1, ← hR.k.1]
    exact congrFun (a3 20 0 (by omega)) i
  · intro i hi
    rw [z2, c4, va_first _ _ _ _ hi, (b5 i hi).2, ← hR.k.2.1]
    exact congrFun (a3 21 0 (by omega)) i
  · intro i hi
    rw [z2, c5, va_first _ _ _ _ hi, b6 i hi, ← hR.k.2.2]
    exact congrFun (a3 22 0 (by omega)) i
  · rw [b2, u4, nI_clamp (by omega)] at hi
    have w := hR.w.2 i hi
    rw [z2, c2 31 0 (by omega)]
    have e31 : (xp σ1 2 0 2 (σ1.1 9 0 1)).2 31 0 i = σ1.2 31 0 i := rfl
    rw [e31, a4 i hi, if_pos (Nat.zero_le _), b4 i hi, if_pos (Nat.zero_le _)]
    exact ⟨w.2.2.2.2.2.1, w.2.2.2.2.2.2.2.2⟩
  · have hh := hX
    unfold XInv at hh ⊢
    rw [z1 9 (by decide), z1 3 (by decide), z1 4 (by decide), z1 6 (by decide), z22, z24, z2, zc 23 (by omega) (by omega)]
    exact ⟨hh.1, hh.2.1, hh.2.2.1, hh.2.2.2.1, hh.2.2.2.2.1, hh.2.2.2.2.2.1, hh.2.2.2.2.2.2.1, ⟨S 0 0, Nat.le_refl _, rfl⟩, Or.inr ⟨s, by rw [e5, nI_clamp (by omega)]; exact Nat.le_refl _, rfl⟩⟩
  · have hh := hM
    have h4 := hM.rl
    unfold MInv at hh ⊢
    rw [m1 12 (by decide), m1 20 (by decide), m1 26 (by decide), m1 3 (by decide), m1 6 (by decide), m1 4 (by decide), b2, u4, u5, u6, b3 17 (by decide), b3 18 (by decide), b3 10 (by decide), b3 19 (by decide), b3 21 (by decide), b3 16 (by decide), b3 42 (by decide), b3 43 (by decide), b3 56 (by decide), b3 58 (by decide), b3 2 (by decide), b3 1 (by decide), b3 5 (by decide)]
    exact ⟨hh.1, hh.2.1, hh.2.2.1, hh.2.2.2.1, hh.2.2.2.2.1, hh.2.2.2.2.2.1, hh.2.2.2.2.2.2.1, hh.2.2.2.2.2.2.2.1, hh.2.2.2.2.2.2.2.2.1, hh.2.2.2.2.2.2.2.2.2.1, hh.2.2.2.2.2.2.2.2.2.2.1, h4, ⟨S 0 0, h8, rfl⟩, hM.ns, h4, hM.tx, hM.tp⟩
end W8
