/-! writers: text -/
section TC
variable {t t' : TB}
theorem runN_cg (h2 : t'.2 = t.2) (h : ∀ i, i < t.2 → t'.1 i = t.1 i) (P : Int32 → Bool) : ∀ n k, runN t' P n k = runN t P n k
  | 0, _ => rfl
  | n + 1, k => by
    unfold runN
    rw [h2]
    by_cases c : k < t.2
    · rw [h k c, runN_cg h2 h P n (k + 1)]
    · rw [if_neg (fun z => c z.1), if_neg (fun z => c z.1)]
theorem wh_cg {b b' : Nat → Int32} {k : Nat} : ∀ n, (∀ j, j < n → b' (k + j) = b (k + j)) → wh b' k n = wh b k n
  | 0, _ => rfl
  | n + 1, h => by
    unfold wh
    rw [wh_cg n (fun j hj => h j (by omega)), h n (by omega)]
theorem nv_cg {b b' : Nat → Int32} {k : Nat} : ∀ n, (∀ j, j < n → b' (k + j) = b (k + j)) → nv b' k n = nv b k n
  | 0, _ => rfl
  | n + 1, h => by
    unfold nv
    rw [nv_cg n (fun j hj => h j (by omega)), h n (by omega)]
theorem tk_cg (h2 : t'.2 = t.2) (h : ∀ i, i < t.2 → t'.1 i = t.1 i) : tk t' = tk t := by
  funext k
  unfold tk
  rw [runN_cg h2 h]
  generalize runN t isBl 162 k = a
  unfold tkA
  rw [h2, runN_cg h2 h, runN_cg h2 h]
  by_cases c : a < t.2
  · rw [if_pos c, if_pos c, h a c]
    have l1 := runN_le t isLe 162 a (by omega)
    have l2 := runN_le t isDi 162 a (by omega)
    rw [wh_cg (b := t.1) (b' := t'.1) (runN t isLe 162 a - a) (fun j hj => h _ (by omega)), nv_cg (b := t.1) (b' := t'.1) (runN t isDi 162 a - a) (fun j hj => h _ (by omega))]
  · rw [if_neg c, if_neg c]
theorem oneG_cg (e : tk t' = tk t) (al : Bool) (rO rE : Nat → Rs) : oneG t' al rO rE = oneG t al rO rE := by
  funext p
  unfold oneG
  rw [e]
theorem loopG_cg (e : tk t' = tk t) (op : Tk → Option Int32) (sub : Nat → Rs) : ∀ n c f p, loopG t' op sub n c f p = loopG t op sub n c f p
  | 0, _, _, _ => rfl
  | n + 1, c, f, p => by
    unfold loopG
    rw [e]
    simp only [loopG_cg e op sub n]
theorem chainG_cg (e : tk t' = tk t) (op : Tk → Option Int32) (sub : Nat → Rs) : chainG t' op sub = chainG t op sub := by
  funext p
  unfold chainG
  simp only [loopG_cg e]
theorem addG_cg (e : tk t' = tk t) (o : Nat → Rs) : addG t' o = addG t o := by
  unfold addG
  rw [chainG_cg e, chainG_cg e]
theorem eitherG_cg (e : tk t' = tk t) (o : Nat → Rs) : eitherG t' o = eitherG t o := by
  unfold eitherG
  rw [chainG_cg e, chainG_cg e]
theorem notG_cg (e : tk t' = tk t) (al : Bool) (rN add : Nat → Rs) : notG t' al rN add = notG t al rN add := by
  funext p
  unfold notG
  rw [e]
theorem gram_cg (e : tk t' = tk t) : ∀ k, gram t' k = gram t k
  | 0 => by unfold gram; rw [oneG_cg e, addG_cg e, notG_cg e, eitherG_cg e]
  | k + 1 => by unfold gram; rw [gram_cg e k, oneG_cg e, addG_cg e, notG_cg e, eitherG_cg e]
theorem partG_cg (e : tk t' = tk t) (key : Int64) (p : Nat) : partG t' key p = partG t key p := by
  unfold partG
  rw [gram_cg e, e]
theorem textG_cg (h2 : t'.2 = t.2) (h : ∀ i, i < t.2 → t'.1 i = t.1 i) : textG t' = textG t := by
  have e := tk_cg h2 h
  unfold textG
  rw [partG_cg e, e]
  simp only [partG_cg e]
end TC
section TX
variable {S : XSh} {σ : XSt} {τ : MSt}
/-- THE TAPE emptied into the row behind the last text -/
theorem tape_rel (h : Al S σ τ) {n : Nat} (hn : S 0 2 = n) (h6 : n < 6) {σ1 : XSt} (hr : RdS σ σ1) : Al S σ1 (txS τ n) := by
  obtain ⟨hR, hX, hM⟩ := h
  have hM1 : MInv (txS τ n) := hM.txS
  obtain ⟨s, hs, es⟩ := hM.ns
  obtain ⟨r1, r2, r3⟩ := hr
  have wc (c : Nat) (hc : c ≠ 4) : σ1.1 c = σ.1 c := funext (fun i => funext (fun k => r2 c i k (fun z => hc z.1)))
  have w2 (c : Nat) (hc : c ≠ 29) : σ1.2 c = σ.2 c := funext (fun i => r3 c i hc)
  have q1 (j : Nat) (hj : j ≠ 6) : (txS τ n).1 j = τ.1 j := mp_j hj
  have q6 : (txS τ n).1 6 = 0 := mp_at _ _ _
  have q (j : Nat) (h1 : j ≠ 1) (h2 : j ≠ 2) : (txS τ n).2.2 j = τ.2.2 j := by
    show (ma (cpyT τ n (τ.1 6).toNatClampNeg) 2 n (τ.1 6)).2.2 j = _
    rw [ma_j h2]
    unfold cpyT
    dsimp only
    rw [if_neg h1]
  have q2 (i : Nat) (hi : i ≠ n) : (txS τ n).2.2 2 i = τ.2.2 2 i := by
    show (ma (cpyT τ n (τ.1 6).toNatClampNeg) 2 n (τ.1 6)).2.2 2 i = _
    rw [ma_k, upd_ne hi]
    rfl
  have q0 (i : Nat) (hi : i < 160 * n) : (txS τ n).2.2 1 i = τ.2.2 1 i := by
    show (ma (cpyT τ n (τ.1 6).toNatClampNeg) 2 n (τ.1 6)).2.2 1 i = _
    rw [ma_j (by decide)]
    show (if 160 * n ≤ i ∧ i < 160 * n + (τ.1 6).toNatClampNeg then τ.2.2 5 (i - 160 * n) else τ.2.2 1 i) = _
    rw [if_neg (by omega)]
  have tx : ∀ i, i < n → textG (txt (txS τ n) i) = textG (txt τ i) := fun i hi => by
    obtain ⟨z, hz, ez⟩ := hM.ts i
    refine textG_cg ?_ (fun j hj => ?_)
    · show ((txS τ n).2.2 2 i).toNatClampNeg = (τ.2.2 2 i).toNatClampNeg
      rw [q2 i (by omega)]
    · have hj' : j < (τ.2.2 2 i).toNatClampNeg := hj
      rw [ez, nI_clamp (by omega)] at hj'
      show (txS τ n).2.2 1 (160 * i + j) = τ.2.2 1 (160 * i + j)
      exact q0 _ (by omega)
  generalize txS τ n = τ1 at *
  have es1 : τ1.1 26 = nI s := by rw [q1 26 (by decide)]; exact es
  have wit : ∀ b, f_X10_withinOf τ1 b = f_X10_withinOf τ b := fun b => by
    unfold f_X10_withinOf
    rw [q 16 (by decide) (by decide), q 17 (by decide) (by decide), q 18 (by decide) (by decide)]
  have shw : ∀ b x, f_X10_showsOf τ1 b x = f_X10_showsOf τ b x := fun b x => by
    unfold f_X10_showsOf
    rw [q 16 (by decide) (by decide), q 17 (by decide) (by decide), q 19 (by decide) (by decide), q 10 (by decide) (by decide)]
  refine ⟨⟨hR.w.tr (wc 8 (by decide)) (q1 12 (by decide)) (fun j _ _ => q j (by omega) (by omega)), ?_, ?_, fun b hb => ?_, hR.k.tr (fun c _ _ => w2 c (by omega)) (fun j _ _ => q j (by omega) (by omega)), hR.i.tr (wc 2 (by decide)) (by rw [w2 20 (by decide)]) (by rw [w2 21 (by decide)]) (by rw [w2 22 (by decide)]) (w2 31 (by decide)) (fun j _ _ => q1 j (by omega)) (fun j _ _ => q j (by omega) (by omega)), ?_, ?_, ?_, hR.h.tr (wc 6 (by decide)) (w2 30 (by decide)) (fun j _ _ => q j (by omega) (by omega))⟩, ?_, hM1⟩
  · have := hR.b
    unfold RelB at this ⊢
    rw [wc 1 (by decide), q1 20 (by decide), q 16 (by decide) (by decide), q 17 (by decide) (by decide), q 18 (by decide) (by decide)]
    simp only [shw]
    exact this
  · have := hR.s
    unfold RelS at this ⊢
    rw [q1 26 (by decide), wc 3 (by decide), w2 23 (by decide), w2 24 (by decide), w2 25 (by decide), w2 26 (by decide), w2 27 (by decide), q 21 (by decide) (by decide), q 22 (by decide) (by decide), q 23 (by decide) (by decide), q 24 (by decide) (by decide), q 25 (by decide) (by decide)]
    exact this
  · have hD := hR.d b hb
    rw [ow_is hs es, gp_is hs es, ch_is hs es, ly_is hs es] at hD
    rw [ow_is hs es1, gp_is hs es1, ch_is hs es1, ly_is hs es1, q 21 (by decide) (by decide), q 22 (by decide) (by decide), q 23 (by decide) (by decide), q 25 (by decide) (by decide), q1 26 (by decide), wc 1 (by decide)]
    exact hD
  · have := hR.r
    unfold RelR at this ⊢
    rw [q1 3 (by decide), q1 4 (by decide), wc 9 (by decide), wc 5 (by decide), w2 32 (by decide)]
    refine ⟨this.1, this.2.1, this.2.2.1, fun i hi => ?_⟩
    rw [tx i (by omega)]
    exact this.2.2.2 i hi
  · refine ⟨by rw [q6, r1], fun i hi => ?_⟩
    rw [q6] at hi
    exact absurd hi (Nat.not_lt_zero _)
  · intro t ht
    obtain ⟨u0, u1, u2, u3, u4, u5⟩ := hR.g t ht
    obtain ⟨g, hg, eg⟩ := hM.given t
    have eg1 : τ1.2.2 42 t = nI g := by rw [q 42 (by decide) (by decide)]; exact eg
    obtain ⟨f0, f1, f2, f3⟩ := tg_f ht hg eg
    obtain ⟨g0, g1, g2, g3⟩ := tg_f ht hg eg1
    have same : tgN τ1 t g = tgN τ t g := tgN_cg2 (fun k hk => by
      rw [q 43 (by decide) (by decide), q 44 (by decide) (by decide), q 45 (by decide) (by decide), wit, q 17 (by decide) (by decide)]
      exact ⟨rfl, rfl, rfl, rfl, rfl⟩) g (Nat.le_refl _)
    rw [same] at g0 g1 g2 g3
    rw [g0, g1, g2, g3, ← f0, ← f1, ← f2, ← f3, q 42 (by decide) (by decide), q 43 (by decide) (by decide), wc 7 (by decide)]
    exact ⟨u0, u1, u2, u3, u4, u5⟩
  · have hh := hX
    unfold XInv at hh ⊢
    rw [wc 9 (by decide), wc 3 (by decide), r1, wc 6 (by decide), wc 2 (by decide), w2 23 (by decide)]
    exact ⟨hh.1, hh.2.1, hh.2.2.1, hh.2.2.2.1, Ct.zero _, hh.2.2.2.2.2⟩
/-- a rule more -/
theorem rule_rel (h : Al S σ τ) {n l : Nat} (hn : S 0 2 = n) (h6 : n < 6) {r : (List Int32 × Ev) × (List Int32 × Ev) × (List Int32 × Ev)} (hg : textG (txt τ n) = .ok r) (hl : l = (r.1.1 ++ r.2.1.1 ++ r.2.2.1).length) (hl2 : l ≤ 160) {fb : Nat → Int32} (hf : ∀ j, j < l → fb j = (r.1.1 ++ r.2.1.1 ++ r.2.2.1).getD j 0) : Al (ruU S n l) (ruS σ n (nI r.1.1.length) (nI (r.1.1 ++ r.2.1.1).length) fb) (mp τ 3 (nI (n + 1))) := by
  obtain ⟨hR, hX, hM⟩ := h
  have s00 : ruU S n l 0 0 = S 0 0 := by rw [ruU_0, if_neg (by decide)]
  have s01 : ruU S n l 0 1 = S 0 1 := by rw [ruU_0, if_neg (by decide)]
  have s02 : ruU S n l 0 2 = n + 1 := by rw [ruU_0, if_pos rfl]
  have s1 : ruU S n l 1 = S 1 := funext (fun i => ruU_1 S n l i)
  have s2 : ruU S n l 2 = S 2 := funext (fun i => ruU_2 S n l i)
  have s5 (i : Nat) : ruU S n l 5 i = if i = n then l else S 5 i := ruU_5 S n l i
  generalize ruU S n l = S1 at *
  have wc (x : Nat) (h1 : x ≠ 5) (h2 : x ≠ 9) : (ruS σ n (nI r.1.1.length) (nI (r.1.1 ++ r.2.1.1).length) fb).1 x = σ.1 x := by
    funext i j
    unfold ruS; dsimp only; rw [if_neg (fun z => h1 z.1), if_neg (fun z => h2 z.1)]
  have w95 : (ruS σ n (nI r.1.1.length) (nI (r.1.1 ++ r.2.1.1).length) fb).1 9 0 5 = nI (n + 1) := by
    unfold ruS; dsimp only; rw [if_neg (fun z => absurd z.1 (by decide)), if_pos ⟨rfl, rfl, rfl⟩]
  have w9 (j : Nat) (hj : j ≠ 5) : (ruS σ n (nI r.1.1.length) (nI (r.1.1 ++ r.2.1.1).length) fb).1 9 0 j = σ.1 9 0 j := by
    unfold ruS; dsimp only; rw [if_neg (fun z => absurd z.1 (by decide)), if_neg (fun z => hj z.2.2)]
  have w5 (i j : Nat) (hi : i ≠ n) : (ruS σ n (nI r.1.1.length) (nI (r.1.1 ++ r.2.1.1).length) fb).1 5 i j = σ.1 5 i j := by
    unfold ruS; dsimp only; rw [if_neg (fun z => hi z.2), if_neg (fun z => absurd z.1 (by decide))]
  have w51 : (ruS σ n (nI r.1.1.length) (nI (r.1.1 ++ r.2.1.1).length) fb).1 5 n 1 = nI r.1.1.length := by
    unfold ruS; dsimp only; rw [if_pos ⟨rfl, rfl⟩]; rfl
  have w52 : (ruS σ n (nI r.1.1.length) (nI (r.1.1 ++ r.2.1.1).length) fb).1 5 n 2 = nI (r.1.1 ++ r.2.1.1).length := by
    unfold ruS; dsimp only; rw [if_pos ⟨rfl, rfl⟩]; rfl
  have v2 (c : Nat) (hc : c ≠ 32) : (ruS σ n (nI r.1.1.length) (nI (r.1.1 ++ r.2.1.1).length) fb).2 c = σ.2 c := by
    funext i j
    unfold ruS; dsimp only; rw [if_neg (fun z => hc z.1)]
  have v32 (i : Nat) (hi : i ≠ n) : (ruS σ n (nI r.1.1.length) (nI (r.1.1 ++ r.2.1.1).length) fb).2 32 i = σ.2 32 i := by
    funext j
    unfold ruS; dsimp only; rw [if_neg (fun z => hi z.2)]
  have vn : (ruS σ n (nI r.1.1.length) (nI (r.1.1 ++ r.2.1.1).length) fb).2 32 n = fb := by
    funext j
    unfold ruS; dsimp only; rw [if_pos ⟨rfl, rfl⟩]
  generalize ruS σ n (nI r.1.1.length) (nI (r.1.1 ++ r.2.1.1).length) fb = σ1 at *
  have v : Dv τ (mp τ 3 (nI (n + 1))) := (Dv.rf τ).mp (by decide)
  have q1 (j : Nat) (hj : j ≠ 3) : (mp τ 3 (nI (n + 1))).1 j = τ.1 j := mp_j hj
  have q3 : (mp τ 3 (nI (n + 1))).1 3 = nI (n + 1) := mp_at _ _ _
  have q2 : (mp τ 3 (nI (n + 1))).2.2 = τ.2.2 := rfl
  generalize mp τ 3 (nI (n + 1)) = τ1 at *
  refine ⟨⟨?_, ?_, hR.s.tr (wc 3 (by decide) (by decide)) (fun c _ _ => v2 c (by omega)) v, ?_, hR.k.tr (fun c _ _ => v2 c (by omega)) (fun j _ _ => by rw [q2]), ?_, ?_, hR.t.tr (by rw [wc 4 (by decide) (by decide)]) (v2 28 (by decide)) (q1 6 (by decide)) (by rw [q2]), ?_, hR.h.tr (wc 6 (by decide) (by decide)) (v2 30 (by decide)) (fun j _ _ => by rw [q2])⟩, ?_, ?_⟩
  · have := hR.w.tr (σ' := σ1) (τ' := τ1) (wc 8 (by decide) (by decide)) (q1 12 (by decide)) (fun j _ _ => by rw [q2])
    unfold RelW at this ⊢
    rw [s00]; exact this
  · have := hR.b.tr (σ' := σ1) (τ' := τ1) (wc 1 (by decide) (by decide)) v (q1 20 (by decide)) (by rw [q2])
    unfold RelB at this ⊢
    rw [s01, s1, s2]; exact this
  · have := hR.d.tr (σ' := σ1) (τ' := τ1) (wc 1 (by decide) (by decide)) v
    unfold RelD at this ⊢
    rw [s01]; exact this
  · have := hR.i.tr (σ' := σ1) (τ' := τ1) (wc 2 (by decide) (by decide)) (by rw [v2 20 (by decide)]) (by rw [v2 21 (by decide)]) (by rw [v2 22 (by decide)]) (v2 31 (by decide)) (fun j _ _ => q1 j (by omega)) (fun j _ _ => by rw [q2])
    rcases this with a | ⟨i0, i1, i2, i3, i4, ⟨k, hk, ek⟩, i5⟩
    · exact Or.inl a
    · exact Or.inr ⟨i0, i1, i2, i3, i4, ⟨k, by omega, ek⟩, i5⟩
  · obtain ⟨a1, a2, ⟨k, hk, ek⟩, a4⟩ := hR.r
    refine ⟨by rw [q3, s02], by rw [q1 4 (by decide), w9 6 (by decide)]; exact a2, ⟨k, by omega, by rw [w9 6 (by decide)]; exact ek⟩, fun i hi => ?_⟩
    rw [s02] at hi
    rw [dv_txt v, s5]
    by_cases e : i = n
    · subst e
      rw [if_pos rfl, vn, w51, w52]
      exact ⟨r, hg, hl, Nat.le_trans (Nat.le_of_eq hl.symm) hl2, fun j hj => hf j (Nat.lt_of_lt_of_le hj (Nat.le_of_eq hl.symm)), rfl, rfl⟩
    · rw [if_neg e, v32 i e, w5 i 1 e, w5 i 2 e]
      exact a4 i (by omega)
  · have := hR.g.tr (σ' := σ1) (τ' := τ1) (wc 7 (by decide) (by decide)) v (fun j _ _ => by rw [q2])
    unfold RelG at this ⊢
    rw [s01]; exact this
  · have hh := hX
    unfold XInv at hh ⊢
    rw [s00, s01, s02, s1, s2, w95, w9 1 (by decide), w9 3 (by decide), wc 3 (by decide) (by decide), wc 4 (by decide) (by decide), wc 6 (by decide) (by decide), wc 2 (by decide) (by decide), v2 23 (by decide)]
    obtain ⟨x1, x2, x3, x4, x5, x6, x7, x8⟩ := hh
    refine ⟨⟨x1.1, x1.2.1, rfl, by omega⟩, x2, x3, x4, x5, x6, fun i hi => ?_, x8⟩
    rw [s5]
    by_cases e : i = n
    · rw [if_pos e]; exact hl2
    · rw [if_neg e]; exact x7 i (by omega)
  · have hh := hM
    unfold MInv at hh ⊢
    rw [q1 12 (by decide), q1 20 (by decide), q1 26 (by decide), q3, q1 6 (by decide), q1 4 (by decide), q1 53 (by decide), q1 54 (by decide), q1 55 (by decide), q2]
    exact ⟨⟨hh.1.1, hh.1.2.1, hh.1.2.2.1, ⟨n + 1, by omega, rfl⟩, hh.1.2.2.2.2⟩, hh.2⟩
/-- THE TAPE is what both read -/
theorem tape_xt (h : Al S σ τ) {n : Nat} (hn : n < 6) : XT σ (txt (txS τ n) n) := by
  obtain ⟨hR, hX, hM⟩ := h
  obtain ⟨m, hm, em⟩ := hM.np
  have e2 : (txt (txS τ n) n).2 = m := by
    show ((ma (cpyT τ n (τ.1 6).toNatClampNeg) 2 n (τ.1 6)).2.2 2 n).toNatClampNeg = m
    rw [ma_k, upd_at, em, nI_clamp (by omega)]
  have c6 : (τ.1 6).toNatClampNeg = m := by rw [em, nI_clamp (by omega)]
  refine ⟨by rw [e2, ← em]; exact hR.t.1.symm, by rw [e2]; exact hm, fun i hi => ?_, fun i hi => ?_⟩
  · rw [e2] at hi
    rw [← (hR.t.2 i (by rw [c6]; exact hi)).1]
    show (ma (cpyT τ n (τ.1 6).toNatClampNeg) 2 n (τ.1 6)).2.2 1 (160 * n + i) = _
    rw [ma_j (by decide)]
    show (if 160 * n ≤ 160 * n + i ∧ 160 * n + i < 160 * n + (τ.1 6).toNatClampNeg then τ.2.2 5 (160 * n + i - 160 * n) else _) = _
    rw [if_pos (by omega), Nat.add_sub_cancel_left]
  · rw [e2] at hi
    exact (hR.t.2 i (by rw [c6]; exact hi)).2
end TX
