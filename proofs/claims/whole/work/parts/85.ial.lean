/-! both made: alike -/
theorem p255 (x : Int64) : Int64.toInt32 (x &&& 255) = Int64.toInt32 x &&& 255 := by
  apply Int32.toBitVec_inj.1
  rw [Int32.toBitVec_and, Int64.toBitVec_toInt32, Int64.toBitVec_toInt32, Int64.toBitVec_and, b32, b64]
  apply BitVec.eq_of_getLsbD_eq
  intro i hi
  rw [BitVec.getLsbD_and, BitVec.getLsbD_signExtend, BitVec.getLsbD_signExtend, BitVec.getLsbD_and, bt_255, bt_255l]
  have h1 : i < 64 := by omega
  simp [hi, h1]
theorem spL : ∀ (n : Nat) (σ : MSt) (a : Int32) (w : Int64) (i : Int32), (f_X10_spell_L3 n σ a w i).1 = σ.1 ∧ (∀ j, j ≠ 1 → (f_X10_spell_L3 n σ a w i).2.2 j = σ.2.2 j) ∧ ((∀ x, 0 ≤ σ.2.2 1 x) → ∀ x, 0 ≤ (f_X10_spell_L3 n σ a w i).2.2 1 x)
  | 0, _, _, _, _ => ⟨rfl, fun _ _ => rfl, fun h => h⟩
  | n + 1, σ, a, w, i => by
    rw [f_X10_spell_L3]
    by_cases c : (8 : Int32) ≤ i
    · rw [if_pos c]; exact ⟨rfl, fun _ _ => rfl, fun h => h⟩
    · rw [if_neg c]
      obtain ⟨e1, e2, e3⟩ := spL n (ma σ 1 (Int32.toNatClampNeg (a + i)) (Int64.toInt32 ((w >>> (Int32.toInt64 ((56 : Int32) - ((8 : Int32) * i)) &&& 63)) &&& (255 : Int64)))) a w (i + 1)
      refine ⟨e1, fun j hj => (e2 j hj).trans (ma_j hj), fun h => e3 (fun x => ?_)⟩
      rw [ma_k]
      by_cases q : x = Int32.toNatClampNeg (a + i)
      · rw [q, upd_at, p255]; exact and_255 _
      · rw [upd_ne q]; exact h x
theorem sp_is (σ : MSt) (a : Int32) (w : Int64) : (f_X10_spell σ a w).1 = σ.1 ∧ (∀ j, j ≠ 1 → (f_X10_spell σ a w).2.2 j = σ.2.2 j) ∧ ((∀ x, 0 ≤ σ.2.2 1 x) → ∀ x, 0 ≤ (f_X10_spell σ a w).2.2 1 x) := spL 10 σ a w 0
theorem inL400 : ∀ (n k : Nat) (σ : MSt), k ≤ 3 → 3 - k < n → (f_X10_init_L400 n σ (nI k)).1 = σ.1 ∧ (∀ j, j ≠ 15 → (f_X10_init_L400 n σ (nI k)).2.2 j = σ.2.2 j) ∧ ∀ i, (f_X10_init_L400 n σ (nI k)).2.2 15 i = if k ≤ i ∧ i < 3 then 100 else σ.2.2 15 i := by
  intro n
  induction n with
  | zero => intro k σ _ h; exact absurd h (Nat.not_lt_zero _)
  | succ n ih =>
    intro k σ hk hn
    rw [f_X10_init_L400]
    by_cases c : k = 3
    · subst c
      rw [if_pos (by decide : (3 : Int32) ≤ nI 3)]
      exact ⟨rfl, fun _ _ => rfl, fun i => by rw [if_neg (by omega)]⟩
    · have c1 : ¬ (3 : Int32) ≤ nI k := fun q => by have := (nI_leI (a := 3) (by decide) (by omega)).mp q; omega
      rw [if_neg c1, nI_clamp (show k < 2 ^ 31 by omega), nI_1]
      obtain ⟨e1, e2, e3⟩ := ih (k + 1) (ma σ 15 k 100) (by omega) (by omega)
      refine ⟨e1, fun j hj => (e2 j hj).trans (ma_j hj), fun i => ?_⟩
      rw [e3 i, ma_k]
      by_cases q : i = k
      · rw [if_neg (show ¬ (k + 1 ≤ i ∧ i < 3) by omega), if_pos (show k ≤ i ∧ i < 3 by omega), q, upd_at]
      · rw [upd_ne q]
        by_cases q2 : k ≤ i ∧ i < 3
        · rw [if_pos (show k + 1 ≤ i ∧ i < 3 by omega), if_pos q2]
        · rw [if_neg (show ¬ (k + 1 ≤ i ∧ i < 3) by omega), if_neg q2]
theorem inL378 : ∀ (n k : Nat) (σ : MSt), k ≤ 12 → 12 - k < n → (f_X10_init_L378 n σ (nI k)).1 = σ.1 ∧ (∀ j, j ≠ 14 → j ≠ 15 → (f_X10_init_L378 n σ (nI k)).2.2 j = σ.2.2 j) ∧ (∀ i, (f_X10_init_L378 n σ (nI k)).2.2 14 i = if k ≤ i ∧ i < 12 then 99 else σ.2.2 14 i) ∧ ∀ i, (f_X10_init_L378 n σ (nI k)).2.2 15 i = if i < 3 then 100 else σ.2.2 15 i := by
  intro n
  induction n with
  | zero => intro k σ _ h; exact absurd h (Nat.not_lt_zero _)
  | succ n ih =>
    intro k σ hk hn
    rw [f_X10_init_L378]
    by_cases c : k = 12
    · subst c
      rw [if_pos (by decide : (12 : Int32) ≤ nI 12)]
      obtain ⟨e1, e2, e3⟩ := inL400 5 0 σ (Nat.zero_le _) (by decide)
      have z : (0 : Int32) = nI 0 := rfl
      rw [z]
      refine ⟨e1, fun j _ hj => e2 j hj, fun i => by rw [e2 14 (by decide), if_neg (by omega)], fun i => ?_⟩
      rw [e3 i]
      by_cases q : i < 3
      · rw [if_pos ⟨Nat.zero_le _, q⟩, if_pos q]
      · rw [if_neg (fun z => q z.2), if_neg q]
    · have c1 : ¬ (12 : Int32) ≤ nI k := fun q => by have := (nI_leI (a := 12) (by decide) (by omega)).mp q; omega
      rw [if_neg c1, nI_clamp (show k < 2 ^ 31 by omega), nI_1]
      obtain ⟨e1, e2, e3, e4⟩ := ih (k + 1) (ma σ 14 k 99) (by omega) (by omega)
      refine ⟨e1, fun j h1 h2 => (e2 j h1 h2).trans (ma_j h1), fun i => ?_, fun i => by rw [e4 i, ma_j (show 15 ≠ 14 by decide)]⟩
      rw [e3 i, ma_k]
      by_cases q : i = k
      · rw [if_neg (show ¬ (k + 1 ≤ i ∧ i < 12) by omega), if_pos (show k ≤ i ∧ i < 12 by omega), q, upd_at]
      · rw [upd_ne q]
        by_cases q2 : k ≤ i ∧ i < 12
        · rw [if_pos (show k + 1 ≤ i ∧ i < 12 by omega), if_pos q2]
        · rw [if_neg (show ¬ (k + 1 ≤ i ∧ i < 12) by omega), if_neg q2]
/-- the reference's rows when it is made -/
theorem in_is : (∀ j, (f_X10_init sz0).1 j = if j = 3 then 1 else 0) ∧ (∀ j, j ≠ 1 → j ≠ 2 → j ≠ 14 → j ≠ 15 → (f_X10_init sz0).2.2 j = zF) ∧ (f_X10_init sz0).2.2 14 = fillF 12 99 zF ∧ (f_X10_init sz0).2.2 15 = fillF 3 100 zF ∧ (f_X10_init sz0).2.2 2 = upd zF 0 80 ∧ ∀ x, 0 ≤ (f_X10_init sz0).2.2 1 x := by
  have key : ∃ τ : MSt, τ.1 = sz0.1 ∧ (∀ j, j ≠ 1 → τ.2.2 j = zF) ∧ (∀ x, 0 ≤ τ.2.2 1 x) ∧ f_X10_init sz0 = f_X10_init_L378 14 (mp (ma τ 2 0 80) 3 1) (nI 0) := by
    refine ⟨_, ?_, ?_, ?_, rfl⟩
    · rw [(sp_is _ _ _).1, (sp_is _ _ _).1, (sp_is _ _ _).1, (sp_is _ _ _).1, (sp_is _ _ _).1, (sp_is _ _ _).1, (sp_is _ _ _).1, (sp_is _ _ _).1, (sp_is _ _ _).1, (sp_is _ _ _).1]
    · intro j hj
      rw [(sp_is _ _ _).2.1 j hj, (sp_is _ _ _).2.1 j hj, (sp_is _ _ _).2.1 j hj, (sp_is _ _ _).2.1 j hj, (sp_is _ _ _).2.1 j hj, (sp_is _ _ _).2.1 j hj, (sp_is _ _ _).2.1 j hj, (sp_is _ _ _).2.1 j hj, (sp_is _ _ _).2.1 j hj, (sp_is _ _ _).2.1 j hj]
      rfl
    · exact (sp_is _ _ _).2.2 ((sp_is _ _ _).2.2 ((sp_is _ _ _).2.2 ((sp_is _ _ _).2.2 ((sp_is _ _ _).2.2 ((sp_is _ _ _).2.2 ((sp_is _ _ _).2.2 ((sp_is _ _ _).2.2 ((sp_is _ _ _).2.2 ((sp_is _ _ _).2.2 (fun _ => Int32.le_refl 0))))))))))
  obtain ⟨τ, t1, t2, t3, e⟩ := key
  obtain ⟨i1, i2, i3, i4⟩ := inL378 14 0 (mp (ma τ 2 0 80) 3 1) (Nat.zero_le _) (by decide)
  have m2 : (mp (ma τ 2 0 80) 3 1).2.2 = (ma τ 2 0 80).2.2 := rfl
  rw [m2] at i2 i3 i4
  rw [e]
  refine ⟨fun j => ?_, fun j h1 h2 h14 h15 => ?_, funext fun i => ?_, funext fun i => ?_, ?_, fun x => ?_⟩
  · rw [i1]
    by_cases q : j = 3
    · rw [if_pos q, q]; exact mp_at _ _ _
    · rw [if_neg q, mp_j q]
      show τ.1 j = 0
      rw [t1]; rfl
  · rw [i2 j h14 h15, ma_j h2, t2 j h1]
  · rw [i3 i, ma_j (by decide), t2 14 (by decide)]
    show _ = (if i < 12 then (99 : Int32) else zF i)
    by_cases q : i < 12
    · rw [if_pos ⟨Nat.zero_le _, q⟩, if_pos q]
    · rw [if_neg (fun z => q z.2), if_neg q]
  · rw [i4 i, ma_j (by decide), t2 15 (by decide)]
    rfl
  · rw [i2 2 (by decide) (by decide), ma_k, t2 2 (by decide)]
  · rw [i2 1 (by decide) (by decide), ma_j (by decide)]; exact t3 x
set_option maxRecDepth 100000 in
theorem in_txt : ∀ i, i < 80 → (f_X10_init sz0).2.2 1 i = if i = 79 then 32 else sB 0 i := by decide +kernel
theorem in_text : ((txt (f_X10_init sz0) 0).2 = 80) ∧ ∀ i, i < 80 → (txt (f_X10_init sz0) 0).1 i = t80.1 i := by
  obtain ⟨_, _, _, _, e2, _⟩ := in_is
  constructor
  · show ((f_X10_init sz0).2.2 2 0).toNatClampNeg = 80
    rw [e2, upd_at]
    rfl
  · intro i hi
    show (f_X10_init sz0).2.2 1 (160 * 0 + i) = _
    rw [Nat.mul_zero, Nat.zero_add]
    exact in_txt i hi
theorem init_al {r r' : (List Int32 × Ev) × (List Int32 × Ev) × (List Int32 × Ev)} {fb : Nat → Int32} {s1 : XSt} (h80 : textG t80 = .ok r') (e1 : r'.1.1 = r.1.1) (e2 : r'.2.1.1 = r.2.1.1) (e3 : r'.2.2.1 = r.2.2.1) (hl : (r.1.1 ++ r.2.1.1 ++ r.2.2.1).length ≤ 160) (hfb : ∀ j, j < (r.1.1 ++ r.2.1.1 ++ r.2.2.1).length → fb j = (r.1.1 ++ r.2.1.1 ++ r.2.2.1).getD j 0) (hR : RdS (sP 79) s1) : Al (ruU xS0 0 (r.1.1 ++ r.2.1.1 ++ r.2.2.1).length) (ruS s1 0 (nI r.1.1.length) (nI (r.1.1 ++ r.2.1.1).length) fb) (f_X10_init sz0) := by
  obtain ⟨i1, i2, i14, i15, i22, i11⟩ := in_is
  obtain ⟨x1, x2⟩ := in_text
  obtain ⟨p1, p2, p3, _⟩ := sP_is 79 (Nat.le_refl _)
  obtain ⟨r1, r2, r3⟩ := hR
  have cg : textG (txt (f_X10_init sz0) 0) = textG t80 := textG_cg (t := t80) (by rw [x1]; rfl) (fun i hi => x2 i hi)
  have s00 : ruU xS0 0 (r.1.1 ++ r.2.1.1 ++ r.2.2.1).length 0 0 = 0 := by rw [ruU_0, if_neg (by decide)]; rfl
  have s01 : ruU xS0 0 (r.1.1 ++ r.2.1.1 ++ r.2.2.1).length 0 1 = 0 := by rw [ruU_0, if_neg (by decide)]; rfl
  have s02 : ruU xS0 0 (r.1.1 ++ r.2.1.1 ++ r.2.2.1).length 0 2 = 1 := by rw [ruU_0, if_pos rfl]
  have s5 : ruU xS0 0 (r.1.1 ++ r.2.1.1 ++ r.2.2.1).length 5 0 = (r.1.1 ++ r.2.1.1 ++ r.2.2.1).length := by rw [ruU_5, if_pos rfl]
  generalize ruU xS0 0 (r.1.1 ++ r.2.1.1 ++ r.2.2.1).length = S1 at *
  have wc (c i f : Nat) (h4 : ¬ (c = 4 ∧ i = 0)) (h5 : ¬ (c = 5 ∧ i = 0)) (h9 : ¬ (c = 9 ∧ i = 0 ∧ f = 5)) : (ruS s1 0 (nI r.1.1.length) (nI (r.1.1 ++ r.2.1.1).length) fb).1 c i f = xI0.1 c i f := by
    unfold ruS; dsimp only
    rw [if_neg h5, if_neg h9, r2 c i f h4]
    exact p2 c i f (fun z => h4 ⟨z.1, z.2.1⟩)
  have w42 : (ruS s1 0 (nI r.1.1.length) (nI (r.1.1 ++ r.2.1.1).length) fb).1 4 0 2 = 0 := by
    unfold ruS; dsimp only
    rw [if_neg (fun z => absurd z.1 (by decide)), if_neg (fun z => absurd z.1 (by decide))]
    exact r1
  have w95 : (ruS s1 0 (nI r.1.1.length) (nI (r.1.1 ++ r.2.1.1).length) fb).1 9 0 5 = nI (0 + 1) := by
    unfold ruS; dsimp only; rw [if_neg (fun z => absurd z.1 (by decide)), if_pos ⟨rfl, rfl, rfl⟩]
  have w51 : (ruS s1 0 (nI r.1.1.length) (nI (r.1.1 ++ r.2.1.1).length) fb).1 5 0 1 = nI r.1.1.length := by
    unfold ruS; dsimp only; rw [if_pos ⟨rfl, rfl⟩]; rfl
  have w52 : (ruS s1 0 (nI r.1.1.length) (nI (r.1.1 ++ r.2.1.1).length) fb).1 5 0 2 = nI (r.1.1 ++ r.2.1.1).length := by
    unfold ruS; dsimp only; rw [if_pos ⟨rfl, rfl⟩]; rfl
  have v32 : (ruS s1 0 (nI r.1.1.length) (nI (r.1.1 ++ r.2.1.1).length) fb).2 32 0 = fb := by
    funext j
    unfold ruS; dsimp only; rw [if_pos ⟨rfl, rfl⟩]
  have v2 (c i : Nat) (h29 : c ≠ 29) (h32 : c ≠ 32) (h28 : c ≠ 28) : (ruS s1 0 (nI r.1.1.length) (nI (r.1.1 ++ r.2.1.1).length) fb).2 c i = xI0.2 c i := by
    funext j
    unfold ruS; dsimp only
    rw [if_neg (fun z => h32 z.1), r3 c i h29, p3 c i (fun z => h28 z.1)]
  generalize ruS s1 0 (nI r.1.1.length) (nI (r.1.1 ++ r.2.1.1).length) fb = σ1 at *
  have q12 : (f_X10_init sz0).1 12 = 0 := by rw [i1, if_neg (by decide)]
  have q20 : (f_X10_init sz0).1 20 = 0 := by rw [i1, if_neg (by decide)]
  have q26 : (f_X10_init sz0).1 26 = 0 := by rw [i1, if_neg (by decide)]
  have q3 : (f_X10_init sz0).1 3 = 1 := by rw [i1, if_pos rfl]
  have q4 : (f_X10_init sz0).1 4 = 0 := by rw [i1, if_neg (by decide)]
  have q6 : (f_X10_init sz0).1 6 = 0 := by rw [i1, if_neg (by decide)]
  have q52 : (f_X10_init sz0).1 52 = 0 := by rw [i1, if_neg (by decide)]
  have q53 : (f_X10_init sz0).1 53 = 0 := by rw [i1, if_neg (by decide)]
  have q54 : (f_X10_init sz0).1 54 = 0 := by rw [i1, if_neg (by decide)]
  have q55 : (f_X10_init sz0).1 55 = 0 := by rw [i1, if_neg (by decide)]
  have z (j : Nat) (h1 : j ≠ 1) (h2 : j ≠ 2) (h14 : j ≠ 14) (h15 : j ≠ 15) := i2 j h1 h2 h14 h15
  generalize f_X10_init sz0 = τ at *
  have c0 : (0 : Int32).toNatClampNeg = 0 := rfl
  have vp0 (N : Nat) (h : 0 < N) (h2 : N < 1000) : vp_in 0 N := vp_in_nI (n := 0) h (by omega)
  refine ⟨⟨⟨by rw [q12, s00]; rfl, fun i hi => ?_⟩, ⟨by rw [q20, s01]; rfl, fun b hb => ?_⟩, ⟨?_, ?_, ?_, ?_, ?_, ?_, fun i hi => ?_⟩, fun b hb => ?_, ⟨?_, ?_, ?_⟩, Or.inl ⟨?_, q52⟩, ⟨by rw [q3, s02]; rfl, ?_, ⟨0, by omega, ?_⟩, fun i hi => ?_⟩, ⟨by rw [q6, w42], fun i hi => ?_⟩, fun t ht => ?_, fun s hs => Or.inl ⟨?_, ?_⟩⟩, ?_, ?_⟩
  · rw [s00] at hi; exact absurd hi (Nat.not_lt_zero _)
  · rw [s01] at hb; exact absurd hb (Nat.not_lt_zero _)
  · rw [q26, wc 3 0 5 (by omega) (by omega) (by omega)]; rfl
  · rw [v2 23 0 (by decide) (by decide) (by decide), z 21 (by decide) (by decide) (by decide) (by decide)]; rfl
  · rw [v2 24 0 (by decide) (by decide) (by decide), z 22 (by decide) (by decide) (by decide) (by decide)]; rfl
  · rw [v2 25 0 (by decide) (by decide) (by decide), z 23 (by decide) (by decide) (by decide) (by decide)]; rfl
  · rw [v2 26 0 (by decide) (by decide) (by decide), z 24 (by decide) (by decide) (by decide) (by decide)]; rfl
  · rw [v2 27 0 (by decide) (by decide) (by decide), z 25 (by decide) (by decide) (by decide) (by decide)]; rfl
  · rw [q26, c0] at hi; exact absurd hi (Nat.not_lt_zero _)
  · rw [s01] at hb; exact absurd hb (Nat.not_lt_zero _)
  · rw [v2 20 0 (by decide) (by decide) (by decide), z 13 (by decide) (by decide) (by decide) (by decide)]; rfl
  · rw [v2 21 0 (by decide) (by decide) (by decide), i14]; rfl
  · rw [v2 22 0 (by decide) (by decide) (by decide), i15]; rfl
  · rw [wc 2 0 4 (by omega) (by omega) (by omega)]; rfl
  · rw [q4, wc 9 0 6 (by omega) (by omega) (by omega)]; rfl
  · rw [wc 9 0 6 (by omega) (by omega) (by omega)]; rfl
  · rw [s02] at hi
    have i0 : i = 0 := by omega
    subst i0
    have ec : codes r' = r.1.1 ++ r.2.1.1 ++ r.2.2.1 := by
      unfold codes
      rw [e1, e2, e3]
    refine ⟨r', by rw [cg, h80], by rw [s5, ec], by rw [ec]; exact hl, fun j hj => ?_, by rw [w51, e1], by rw [w52, e1, e2]⟩
    rw [ec] at hj ⊢
    rw [v32]
    exact hfb j hj
  · rw [q6, c0] at hi; exact absurd hi (Nat.not_lt_zero _)
  · have e42 : τ.2.2 42 t = nI 0 := by rw [z 42 (by decide) (by decide) (by decide) (by decide)]; rfl
    obtain ⟨f0, f1, f2, f3⟩ := tg_f (τ := τ) (g := 0) ht (by decide) e42
    rw [f0, f1, f2, f3, e42, wc 7 t 0 (by omega) (by omega) (by omega), wc 7 t 1 (by omega) (by omega) (by omega), wc 7 t 2 (by omega) (by omega) (by omega), wc 7 t 3 (by omega) (by omega) (by omega), wc 7 t 4 (by omega) (by omega) (by omega)]
    exact ⟨rfl, rfl, rfl, rfl, rfl, fun k hk => absurd hk (Nat.not_lt_zero _)⟩
  · rw [z 56 (by decide) (by decide) (by decide) (by decide)]
  · rw [wc 6 s 1 (by omega) (by omega) (by omega)]; rfl
  · unfold XInv
    rw [s00, s01, s02, w95, wc 9 0 1 (by omega) (by omega) (by omega), wc 9 0 3 (by omega) (by omega) (by omega), wc 3 0 5 (by omega) (by omega) (by omega), w42, wc 2 0 2 (by omega) (by omega) (by omega), wc 2 0 4 (by omega) (by omega) (by omega)]
    refine ⟨⟨⟨rfl, by decide⟩, ⟨rfl, by decide⟩, rfl, by decide⟩, fun i hi => absurd hi (Nat.not_lt_zero _), Ct.zero _, fun i hi => absurd hi (Nat.not_lt_zero _), Ct.zero _, fun i hi => ?_, fun i hi => ?_, ⟨0, Nat.le_refl _, rfl⟩, Or.inl rfl⟩
    · rw [wc 6 i 2 (by omega) (by omega) (by omega)]; exact Ct.zero _
    · have i0 : i = 0 := by omega
      rw [i0, s5]; exact hl
  · unfold MInv
    rw [q12, q20, q26, q3, q6, q4, q53, q54, q55, i22, z 17 (by decide) (by decide) (by decide) (by decide), z 18 (by decide) (by decide) (by decide) (by decide), z 10 (by decide) (by decide) (by decide) (by decide), z 19 (by decide) (by decide) (by decide) (by decide), z 21 (by decide) (by decide) (by decide) (by decide), z 16 (by decide) (by decide) (by decide) (by decide), z 42 (by decide) (by decide) (by decide) (by decide), z 43 (by decide) (by decide) (by decide) (by decide), z 56 (by decide) (by decide) (by decide) (by decide), z 58 (by decide) (by decide) (by decide) (by decide), z 5 (by decide) (by decide) (by decide) (by decide)]
    have ar : f_X10_areParts 0 = 1 := by decide
    refine ⟨⟨Ct.zero _, Ct.zero _, Ct.zero _, ⟨1, by decide, rfl⟩, Ct.zero _⟩, fun _ => vp0 8 (by decide) (by decide), fun _ => vp0 8 (by decide) (by decide), fun _ => ar, fun _ => ar, fun _ => vp0 24 (by decide) (by decide), fun _ => vp0 6 (by decide) (by decide), fun _ => Ct.zero _, fun _ => vp0 24 (by decide) (by decide), fun _ => Or.inl rfl, fun i => ?_, vp0 6 (by decide) (by decide), Ct.zero _, Ct.zero _, vp0 6 (by decide) (by decide), i11, fun _ => Int32.le_refl 0⟩
    by_cases q : i = 0
    · rw [q, upd_at]; exact ⟨80, by decide, rfl⟩
    · rw [upd_ne q]; exact Ct.zero _
