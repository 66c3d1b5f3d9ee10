/-- the text x of the reference: its bytes and size -/
def TX (σ : MSt) (t : TB) (x : Nat) : Prop := σ.1 27 = nI (160 * x) ∧ x < 6 ∧ σ.1 28 = nI t.2 ∧ t.2 ≤ 160 ∧ (∀ i, i < t.2 → t.1 i = σ.2.2 1 (160 * x + i)) ∧ ∀ i, i < t.2 → 0 ≤ t.1 i
theorem TX.byte {σ : MSt} {t : TB} {x k : Nat} (h : TX σ t x) (hk : k < t.2) : f_X10_byteAt σ (nI k) = t.1 k := by
  obtain ⟨h1, h2, h3, h4, h5, -⟩ := h
  unfold f_X10_byteAt
  rw [h3, if_neg (fun q => by have := (nI_leI (by omega) (by omega)).mp q; omega), h1, nI_add, nI_clamp (by omega), h5 k hk]
theorem TX.end {σ : MSt} {t : TB} {x k : Nat} (h : TX σ t x) (hk : t.2 ≤ k) (hk2 : k < 1000) : f_X10_byteAt σ (nI k) = -1 := by
  obtain ⟨h1, h2, h3, h4, h5, -⟩ := h
  unfold f_X10_byteAt
  rw [h3, if_pos (nI_le hk (by omega))]
theorem st_ext {f f' : Nat → Int32} {w w' : Int64} {A A' : Nat → Nat → Int32} (h : ∀ j, f j = f' j) (hw : w = w') (hA : A = A') : (f, w, A) = (f', w', A') := by
  rw [funext h, hw, hA]
theorem mp_mp (σ : MSt) (k : Nat) (a b : Int32) : mp (mp σ k a) k b = mp σ k b := by
  refine st_ext (fun j => ?_) rfl rfl
  simp only [mp, upd]
  split <;> rfl
theorem mp_self {σ : MSt} {k : Nat} {a : Int32} (h : σ.1 k = a) : mp σ k a = σ := by
  obtain ⟨f, w, A⟩ := σ
  refine st_ext (fun j => ?_) rfl rfl
  simp only [upd]
  split
  · next q => rw [q]; exact h.symm
  · rfl
theorem bl_iff (c : Int32) : isBl c = true ↔ c = 32 ∨ c = 10 := by simp [isBl]
theorem le_iff (c : Int32) : isLe c = true ↔ 97 ≤ c ∧ c ≤ 122 := by simp [isLe]
theorem di_iff (c : Int32) : isDi c = true ↔ 48 ≤ c ∧ c ≤ 57 := by simp [isDi]
theorem in_le (c : Int32) : f_X10_in (Int32.toInt64 c) 97 122 = if isLe c = true then 1 else 0 := by
  rw [f_in_k c 97 122 97 122 rfl rfl]
  simp only [le_iff]
theorem in_di (c : Int32) : f_X10_in (Int32.toInt64 c) 48 57 = if isDi c = true then 1 else 0 := by
  rw [f_in_k c 48 57 48 57 rfl rfl]
  simp only [di_iff]
theorem L0_one {σ : MSt} {n : Nat} (h1 : ¬ f_X10_byteAt σ (σ.1 32) = 32) (h2 : ¬ f_X10_byteAt σ (σ.1 32) = 10) : f_X10_next_L0 (n + 1) σ = f_X10_next_L0 1 σ := by
  rw [f_X10_next_L0, if_neg h1, if_neg h2, f_X10_next_L0, if_neg h1, if_neg h2]
theorem TX.mp {σ : MSt} {t : TB} {x : Nat} (h : TX σ t x) {k : Nat} (h1 : k ≠ 27) (h2 : k ≠ 28) (v : Int32) : TX (mp σ k v) t x := by
  obtain ⟨a, b, c, d⟩ := h
  refine ⟨?_, b, ?_, d⟩
  · show upd σ.1 k v 27 = _
    rw [show upd σ.1 k v 27 = σ.1 27 from if_neg (Ne.symm h1)]; exact a
  · show upd σ.1 k v 28 = _
    rw [show upd σ.1 k v 28 = σ.1 28 from if_neg (Ne.symm h2)]; exact c
theorem TX.ml {σ : MSt} {t : TB} {x : Nat} (h : TX σ t x) (v : Int64) : TX (ml σ v) t x := h
theorem mp_32 (σ : MSt) (v : Int32) : (mp σ 32 v).1 32 = v := by
  show upd σ.1 32 v 32 = v
  exact if_pos rfl
theorem L0_skip (t : TB) (x : Nat) : ∀ (n : Nat) (σ : MSt) (k : Nat), TX σ t x → σ.1 32 = nI k → k ≤ t.2 → t.2 - k < n → f_X10_next_L0 n σ = f_X10_next_L0 1 (mp σ 32 (nI (runN t isBl n k))) := by
  intro n
  induction n with
  | zero => intro σ k _ _ _ h; exact absurd h (Nat.not_lt_zero _)
  | succ n ih =>
    intro σ k hT hk hle hn
    have hb4 := hT.2.2.2.1
    by_cases q : k < t.2 ∧ isBl (t.1 k) = true
    · have e1 : runN t isBl (n + 1) k = runN t isBl n (k + 1) := by rw [runN, if_pos q]
      rw [e1]
      have hb := hT.byte q.1
      have := ih (mp σ 32 (nI (k + 1))) (k + 1) (hT.mp (by decide) (by decide) _) (mp_32 _ _) q.1 (by omega)
      rw [mp_mp] at this
      rw [← this, f_X10_next_L0, hk, hb, nI_1]
      rcases (bl_iff _).mp q.2 with z | z
      · rw [if_pos z]
      · rw [if_neg (by rw [z]; decide), if_pos z]
    · have e1 : runN t isBl (n + 1) k = k := by rw [runN, if_neg q]
      rw [e1, mp_self hk]
      have hb : ¬ f_X10_byteAt σ (σ.1 32) = 32 ∧ ¬ f_X10_byteAt σ (σ.1 32) = 10 := by
        rw [hk]
        by_cases z : k < t.2
        · rw [hT.byte z]
          have : ¬ isBl (t.1 k) = true := fun y => q ⟨z, y⟩
          rw [bl_iff] at this
          exact ⟨fun y => this (Or.inl y), fun y => this (Or.inr y)⟩
        · rw [hT.end (by omega) (by omega)]
          decide
      exact L0_one hb.1 hb.2
theorem runN_stop (t : TB) (P : Int32 → Bool) : ∀ n k, k ≤ t.2 → t.2 - k < n → ¬ (runN t P n k < t.2 ∧ P (t.1 (runN t P n k)) = true)
  | 0, k, _, h => absurd h (Nat.not_lt_zero _)
  | n + 1, k, hk, h => by
    unfold runN
    by_cases q : k < t.2 ∧ P (t.1 k) = true
    · rw [if_pos q]
      exact runN_stop t P n (k + 1) q.1 (by omega)
    · rw [if_neg q]
      exact q
/-- the token's fields -/
def tokSt (σ : MSt) (T : Tk) (w : Int64) : MSt := (fun j => if j = 29 then T.1 else if j = 30 then nI T.2.1 else if j = 32 then nI T.2.2.2 else σ.1 j, w, σ.2.2)
theorem L107_run (t : TB) (x a : Nat) (l1 : Int32) : ∀ (n : Nat) (σ : MSt) (m : Nat), TX σ t x → σ.1 32 = nI (a + m) → σ.2.1 = wh t.1 a m → a + m ≤ t.2 → t.2 - (a + m) < n → f_X10_next_L107 n σ l1 (nI m) = (upd σ.1 32 (nI (runN t isLe n (a + m))), wh t.1 a (runN t isLe n (a + m) - a), σ.2.2) := by
  intro n
  induction n with
  | zero => intro σ m _ _ _ _ h; exact absurd h (Nat.not_lt_zero _)
  | succ n ih =>
    intro σ m hT hk hw hle hn
    have hb4 := hT.2.2.2.1
    by_cases q : a + m < t.2 ∧ isLe (t.1 (a + m)) = true
    · have e1 : runN t isLe (n + 1) (a + m) = runN t isLe n (a + (m + 1)) := by rw [runN, if_pos q]; rfl
      rw [e1, f_X10_next_L107, hk, hT.byte q.1, in_le, if_pos q.2, if_neg (by decide)]
      by_cases z : m < 8
      · rw [if_neg (fun y => by have := (nI_leI (a := 8) (by decide) (by omega)).mp y; omega), nI_1]
        refine (ih _ (m + 1) ((hT.ml _).mp (by decide) (by decide) _) ?_ ?_ (by omega) (by omega)).trans ?_
        · rw [mp_32]; show σ.1 32 + 1 = _; rw [hk]; exact nI_1 (a + m)
        · show 27 * σ.2.1 + _ - 96 = _
          rw [wh, if_pos z, hw]
        · refine st_ext (fun j => ?_) rfl rfl
          simp only [mp, ml, upd]
          split <;> rfl
      · rw [if_pos (show (8 : Int32) ≤ nI m from nI_le (a := 8) (b := m) (by omega) (by omega)), nI_1]
        refine (ih _ (m + 1) ((hT.ml _).mp (by decide) (by decide) _) ?_ ?_ (by omega) (by omega)).trans ?_
        · rw [mp_32]; show σ.1 32 + 1 = _; rw [hk]; exact nI_1 (a + m)
        · show (-1 : Int64) = _
          rw [wh, if_neg z]
        · refine st_ext (fun j => ?_) rfl rfl
          simp only [mp, ml, upd]
          split <;> rfl
    · have e1 : runN t isLe (n + 1) (a + m) = a + m := by rw [runN, if_neg q]
      have hb : f_X10_in (Int32.toInt64 (f_X10_byteAt σ (σ.1 32))) 97 122 = 0 := by
        rw [hk]
        by_cases z : a + m < t.2
        · rw [hT.byte z, in_le, if_neg (fun y => q ⟨z, y⟩)]
        · rw [hT.end (by omega) (by omega), in_le]
          rfl
      rw [e1, f_X10_next_L107, if_pos hb, Nat.add_sub_cancel_left]
      obtain ⟨f, w, A⟩ := σ
      refine st_ext (fun j => ?_) hw rfl
      simp only [upd]
      split
      · next y => rw [y]; exact hk
      · rfl
theorem L211_run (t : TB) (x a : Nat) (l1 : Int32) : ∀ (n : Nat) (σ : MSt) (m : Nat), TX σ t x → σ.1 32 = nI (a + m) → σ.2.1 = nv t.1 a m → a + m ≤ t.2 → t.2 - (a + m) < n → f_X10_next_L211 n σ l1 (nI m) = (upd (upd σ.1 32 (nI (runN t isDi n (a + m)))) 29 (if 4 < runN t isDi n (a + m) - a then 4 else 2), nv t.1 a (runN t isDi n (a + m) - a), σ.2.2) := by
  intro n
  induction n with
  | zero => intro σ m _ _ _ _ h; exact absurd h (Nat.not_lt_zero _)
  | succ n ih =>
    intro σ m hT hk hw hle hn
    have hb4 := hT.2.2.2.1
    by_cases q : a + m < t.2 ∧ isDi (t.1 (a + m)) = true
    · have e1 : runN t isDi (n + 1) (a + m) = runN t isDi n (a + (m + 1)) := by rw [runN, if_pos q]; rfl
      rw [e1, f_X10_next_L211, hk, hT.byte q.1, in_di, if_pos q.2, if_neg (by decide)]
      by_cases z : m < 4
      · rw [if_neg (fun y => by have := (nI_leI (a := 4) (by decide) (by omega)).mp y; omega), nI_1]
        refine (ih _ (m + 1) ((hT.ml _).mp (by decide) (by decide) _) ?_ ?_ (by omega) (by omega)).trans ?_
        · rw [mp_32]; show σ.1 32 + 1 = _; rw [hk]; exact nI_1 (a + m)
        · show 10 * σ.2.1 + _ - 48 = _
          rw [nv, if_pos z, hw]
        · refine st_ext (fun j => ?_) rfl rfl
          simp only [mp, ml, upd]
          (repeat' split) <;> rfl
      · rw [if_pos (show (4 : Int32) ≤ nI m from nI_le (a := 4) (b := m) (by omega) (by omega)), nI_1]
        refine (ih _ (m + 1) ((hT.ml _).mp (by decide) (by decide) _) ?_ ?_ (by omega) (by omega)).trans ?_
        · rw [mp_32]; show σ.1 32 + 1 = _; rw [hk]; exact nI_1 (a + m)
        · show σ.2.1 = _
          rw [nv, if_neg z, hw]
        · refine st_ext (fun j => ?_) rfl rfl
          simp only [mp, ml, upd]
          (repeat' split) <;> rfl
    · have e1 : runN t isDi (n + 1) (a + m) = a + m := by rw [runN, if_neg q]
      have hb : f_X10_in (Int32.toInt64 (f_X10_byteAt σ (σ.1 32))) 48 57 = 0 := by
        rw [hk]
        by_cases z : a + m < t.2
        · rw [hT.byte z, in_di, if_neg (fun y => q ⟨z, y⟩)]
        · rw [hT.end (by omega) (by omega), in_di]
          rfl
      rw [e1, f_X10_next_L211, if_pos hb, Nat.add_sub_cancel_left]
      obtain ⟨f, w, A⟩ := σ
      by_cases z : 4 < m
      · rw [if_neg (fun y => by have := (nI_leI (b := 4) (by omega) (by decide)).mp y; omega), if_pos z]
        refine st_ext (fun j => ?_) hw rfl
        simp only [upd]
        split
        · rfl
        · split
          · next y => rw [y]; exact hk
          · rfl
      · rw [if_pos (show nI m ≤ (4 : Int32) from nI_le (a := m) (b := 4) (by omega) (by decide)), if_neg z]
        refine st_ext (fun j => ?_) hw rfl
        simp only [upd]
        split
        · rfl
        · split
          · next y => rw [y]; exact hk
          · rfl

theorem sg_iff (c : Int32) : isSg c = true ↔ c = 40 ∨ c = 41 ∨ c = 59 ∨ c = 43 ∨ c = 45 ∨ c = 42 ∨ c = 60 ∨ c = 61 := by
  simp [isSg, or_assoc]
/-- next(), at a place that is no blank -/
theorem L0_tail {t : TB} {x a : Nat} {σ : MSt} (hT : TX σ t x) (ha : a ≤ t.2) (hk : σ.1 32 = nI a) (hbl : ¬ (a < t.2 ∧ isBl (t.1 a) = true)) : ∃ w, ((tkA t a).1 = 1 ∨ (tkA t a).1 = 2 ∨ (tkA t a).1 = 3 → w = (tkA t a).2.2.1) ∧ f_X10_next_L0 1 σ = tokSt σ (tkA t a) w := by
  have h4 := hT.2.2.2.1
  have h6 := hT.2.2.2.2.2
  by_cases q : a < t.2
  · have hb : f_X10_byteAt σ (σ.1 32) = t.1 a := by rw [hk]; exact hT.byte q
    have hb' : f_X10_byteAt (mp σ 30 (σ.1 32)) ((mp σ 30 (σ.1 32)).1 32) = t.1 a := hb
    have n1 : ¬ t.1 a = 32 := fun z => hbl ⟨q, (bl_iff _).mpr (Or.inl z)⟩
    have n2 : ¬ t.1 a = 10 := fun z => hbl ⟨q, (bl_iff _).mpr (Or.inr z)⟩
    rw [f_X10_next_L0, hb', hb, if_neg n1, if_neg n2, if_pos (h6 a q)]
    unfold tkA
    rw [if_pos q]
    by_cases l : isLe (t.1 a) = true
    · have eL : f_X10_in (Int32.toInt64 (t.1 a)) 97 122 = 1 := by rw [in_le, if_pos l]
      rw [eL, if_neg (by decide : ¬ (1 : Int32) = 0)]
      simp only [if_pos l]
      refine ⟨_, fun _ => rfl, (L107_run t x a _ 162 _ 0 ?_ ?_ rfl ha (by omega)).trans ?_⟩
      · exact ((((hT.mp (by decide) (by decide) _).mp (by decide) (by decide) _).mp (by decide) (by decide) _).ml _)
      · exact hk
      · refine st_ext (fun j => ?_) rfl rfl
        simp only [mp, ml, upd]
        rw [hk]
        by_cases j1 : j = 29 <;> by_cases j2 : j = 30 <;> by_cases j3 : j = 32 <;> simp_all
    · have eL : f_X10_in (Int32.toInt64 (t.1 a)) 97 122 = 0 := by rw [in_le, if_neg l]
      rw [eL, if_pos (rfl : (0 : Int32) = 0)]
      simp only [if_neg l]
      by_cases dd : isDi (t.1 a) = true
      · have eD : f_X10_in (Int32.toInt64 (t.1 a)) 48 57 = 1 := by rw [in_di, if_pos dd]
        rw [eD, if_neg (by decide : ¬ (1 : Int32) = 0)]
        simp only [if_pos dd]
        refine ⟨_, fun _ => rfl, (L211_run t x a _ 162 _ 0 ?_ ?_ rfl ha (by omega)).trans ?_⟩
        · exact ((((hT.mp (by decide) (by decide) _).mp (by decide) (by decide) _).mp (by decide) (by decide) _).ml _)
        · exact hk
        · refine st_ext (fun j => ?_) rfl rfl
          simp only [mp, ml, upd]
          rw [hk]
          by_cases j1 : j = 29 <;> by_cases j2 : j = 30 <;> by_cases j3 : j = 32 <;> simp_all
      · have eD : f_X10_in (Int32.toInt64 (t.1 a)) 48 57 = 0 := by rw [in_di, if_neg dd]
        rw [eD, if_pos (rfl : (0 : Int32) = 0)]
        simp only [if_neg dd]
        have key : ∀ w, mp (ml (mp (mp (mp σ 30 (σ.1 32)) 29 (4 : Int32)) 29 (3 : Int32)) w) 32 (((ml (mp (mp (mp σ 30 (σ.1 32)) 29 (4 : Int32)) 29 (3 : Int32)) w).1 32) + (1 : Int32)) = tokSt σ (3, a, w, a + 1) w := by
          intro w
          refine st_ext (fun j => ?_) rfl rfl
          have e : (ml (mp (mp (mp σ 30 (σ.1 32)) 29 (4 : Int32)) 29 (3 : Int32)) w).1 32 = nI a := hk
          rw [e, nI_1]
          simp only [mp, ml, upd]
          rw [hk]
          by_cases j1 : j = 29 <;> by_cases j2 : j = 30 <;> by_cases j3 : j = 32 <;> simp_all
        by_cases sg : isSg (t.1 a) = true
        · rw [if_pos sg]
          refine ⟨_, fun _ => rfl, ?_⟩
          have h8 := (sg_iff _).mp sg
          refine Eq.trans ?_ (key _)
          (repeat' split) <;> first | rfl | (exfalso; simp_all)
        · rw [if_neg sg]
          have h8 : ¬ (t.1 a = 40 ∨ t.1 a = 41 ∨ t.1 a = 59 ∨ t.1 a = 43 ∨ t.1 a = 45 ∨ t.1 a = 42 ∨ t.1 a = 60 ∨ t.1 a = 61) := fun z => sg ((sg_iff _).mpr z)
          simp only [not_or] at h8
          obtain ⟨c1, c2, c3, c4, c5, c6, c7, c8⟩ := h8
          refine ⟨σ.2.1, fun z => ?_, ?_⟩
          · rcases z with z | z | z <;> exact absurd z (by decide : ¬ (4 : Int32) = _)
          · rw [if_neg c1, if_neg c2, if_neg c3, if_neg c4, if_neg c5, if_neg c6, if_neg c7, if_neg c8]
            refine st_ext (fun j => ?_) rfl rfl
            simp only [mp, upd]
            rw [hk]
            by_cases j1 : j = 29 <;> by_cases j2 : j = 30 <;> by_cases j3 : j = 32 <;> simp_all
  · have hb : f_X10_byteAt σ (σ.1 32) = -1 := by rw [hk]; exact hT.end (by omega) (by omega)
    have hb' : f_X10_byteAt (mp σ 30 (σ.1 32)) ((mp σ 30 (σ.1 32)).1 32) = -1 := hb
    rw [f_X10_next_L0, hb', hb, if_neg (by decide), if_neg (by decide), if_neg (by decide)]
    unfold tkA
    rw [if_neg q]
    refine ⟨σ.2.1, fun z => ?_, ?_⟩
    · rcases z with z | z | z <;> exact absurd z (by decide : ¬ (0 : Int32) = _)
    · refine st_ext (fun j => ?_) rfl rfl
      have e28 := hT.2.2.1
      simp only [mp, upd]
      by_cases j1 : j = 29 <;> by_cases j2 : j = 30 <;> by_cases j3 : j = 32 <;> simp_all
/-- next(), from a place k -/
theorem next_eq {t : TB} {x k : Nat} {σ : MSt} (hT : TX σ t x) (hk : σ.1 32 = nI k) (hle : k ≤ t.2) : ∃ w, ((tk t k).1 = 1 ∨ (tk t k).1 = 2 ∨ (tk t k).1 = 3 → w = (tk t k).2.2.1) ∧ f_X10_next σ = tokSt σ (tk t k) w := by
  have h4 := hT.2.2.2.1
  unfold f_X10_next
  rw [L0_skip t x 162 σ k hT hk hle (by omega)]
  have h1 := runN_le t isBl 162 k hle
  obtain ⟨w, hw, e⟩ := L0_tail (σ := mp σ 32 (nI (runN t isBl 162 k))) (hT.mp (by decide) (by decide) _) h1 (mp_32 _ _) (runN_stop t isBl 162 k hle (by omega))
  refine ⟨w, hw, e.trans ?_⟩
  refine st_ext (fun j => ?_) rfl rfl
  simp only [mp, upd]
  unfold tk
  by_cases j1 : j = 29 <;> by_cases j2 : j = 30 <;> by_cases j3 : j = 32 <;> simp_all
