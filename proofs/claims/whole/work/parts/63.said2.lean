theorem tgSel_0 (A : Int32 × Int32 × Int32 × Int32) : tgSel 0 A = A.1 := by rw [tgSel, if_pos rfl]
theorem tgSel_1 (A : Int32 × Int32 × Int32 × Int32) : tgSel 1 A = A.2.1 := by rw [tgSel, if_neg n10, if_pos rfl]
theorem tgSel_2 (A : Int32 × Int32 × Int32 × Int32) : tgSel 2 A = A.2.2.1 := by rw [tgSel, if_neg (by decide), if_neg (by decide), if_pos rfl]
theorem tgSel_3 (A : Int32 × Int32 × Int32 × Int32) : tgSel 3 A = A.2.2.2 := by rw [tgSel, if_neg (by decide), if_neg (by decide), if_neg (by decide)]
section W6
variable {S : XSh} {σ σ' : XSt} {τ τ' : MSt}
theorem tg_f {t g : Nat} (ht : t < 6) (hg : g ≤ 12) (e : τ.2.2 42 t = nI g) : f_X10_tongue τ (nI t) 0 = (tgN τ t g).1 ∧ f_X10_tongue τ (nI t) 1 = (tgN τ t g).2.1 ∧ f_X10_tongue τ (nI t) 2 = (tgN τ t g).2.2.1 ∧ f_X10_tongue τ (nI t) 3 = (tgN τ t g).2.2.2 :=
  ⟨(tg_is ht hg e (w := 0) (by decide)).trans (tgSel_0 _), (tg_is ht hg e (w := 1) (by decide)).trans (tgSel_1 _), (tg_is ht hg e (w := 2) (by decide)).trans (tgSel_2 _), (tg_is ht hg e (w := 3) (by decide)).trans (tgSel_3 _)⟩
/-- a word more -/
theorem said_st (h : Al S σ τ) {t b g : Nat} (ht : t < 6) (hb : b < S 0 1) (hg : g < 12) (eg : τ.2.2 42 t = nI g) (p3 p4 : Int32) : Al S (f_X7_judge S σ t (f_X10_withinOf τ (nI b)) (τ.2.2 17 b) p3 p4) (ma (ma (ma (ma τ 43 (12 * t + g) (nI b)) 44 (12 * t + g) p3) 45 (12 * t + g) p4) 42 t (nI (g + 1))) := by
  obtain ⟨hR, hX, hM⟩ := h
  have h24 := hX.nb.2
  obtain ⟨x1, x2, x3, x4, x5⟩ := judge_is S σ t (f_X10_withinOf τ (nI b)) (τ.2.2 17 b) p3 p4
  generalize f_X7_judge S σ t (f_X10_withinOf τ (nI b)) (τ.2.2 17 b) p3 p4 = σ1 at x1 x2 x3 x4 x5
  have v : Dv τ (ma (ma (ma (ma τ 43 (12 * t + g) (nI b)) 44 (12 * t + g) p3) 45 (12 * t + g) p4) 42 t (nI (g + 1))) := ((((Dv.rf τ).ma (by omega)).ma (by omega)).ma (by omega)).ma (by omega)
  have m (j : Nat) (hj : ¬ (42 ≤ j ∧ j ≤ 45)) : (ma (ma (ma (ma τ 43 (12 * t + g) (nI b)) 44 (12 * t + g) p3) 45 (12 * t + g) p4) 42 t (nI (g + 1))).2.2 j = τ.2.2 j := by
    rw [ma_j (by omega), ma_j (by omega), ma_j (by omega), ma_j (by omega)]
  have m42 : (ma (ma (ma (ma τ 43 (12 * t + g) (nI b)) 44 (12 * t + g) p3) 45 (12 * t + g) p4) 42 t (nI (g + 1))).2.2 42 = upd (τ.2.2 42) t (nI (g + 1)) := by
    rw [ma_k, ma_j (by omega), ma_j (by omega), ma_j (by omega)]
  have m43 : (ma (ma (ma (ma τ 43 (12 * t + g) (nI b)) 44 (12 * t + g) p3) 45 (12 * t + g) p4) 42 t (nI (g + 1))).2.2 43 = upd (τ.2.2 43) (12 * t + g) (nI b) := by
    rw [ma_j (by omega), ma_j (by omega), ma_j (by omega), ma_k]
  have m44 : (ma (ma (ma (ma τ 43 (12 * t + g) (nI b)) 44 (12 * t + g) p3) 45 (12 * t + g) p4) 42 t (nI (g + 1))).2.2 44 = upd (τ.2.2 44) (12 * t + g) p3 := by
    rw [ma_j (by omega), ma_j (by omega), ma_k, ma_j (by omega)]
  have m45 : (ma (ma (ma (ma τ 43 (12 * t + g) (nI b)) 44 (12 * t + g) p3) 45 (12 * t + g) p4) 42 t (nI (g + 1))).2.2 45 = upd (τ.2.2 45) (12 * t + g) p4 := by
    rw [ma_j (by omega), ma_k, ma_j (by omega), ma_j (by omega)]
  have m1 : (ma (ma (ma (ma τ 43 (12 * t + g) (nI b)) 44 (12 * t + g) p3) 45 (12 * t + g) p4) 42 t (nI (g + 1))).1 = τ.1 := rfl
  generalize ma (ma (ma (ma τ 43 (12 * t + g) (nI b)) 44 (12 * t + g) p3) 45 (12 * t + g) p4) 42 t (nI (g + 1)) = τ1 at v m m42 m43 m44 m45 m1
  have cg : ∀ t' g', (∀ k, k < g' → 12 * t' + k ≠ 12 * t + g) → tgN τ1 t' g' = tgN τ t' g' := fun t' g' hk => tgN_cg v (fun k hkg => by rw [m43, m44, m45, upd_ne (hk k hkg), upd_ne (hk k hkg), upd_ne (hk k hkg)]; exact ⟨rfl, rfl, rfl⟩) g' (Nat.le_refl _)
  refine ⟨⟨hR.w.tr (x1 8 (by decide)) (by rw [m1]) (fun j a b => m j (by omega)), hR.b.tr (x1 1 (by decide)) v (by rw [m1]) (m 10 (by omega)), hR.s.tr (x1 3 (by decide)) (fun c a b => by rw [x2]) v, hR.d.tr (x1 1 (by decide)) v, hR.k.tr (fun c a b => by rw [x2]) (fun j a b => m j (by omega)), hR.i.tr (x1 2 (by decide)) (by rw [x2]) (by rw [x2]) (by rw [x2]) (by rw [x2]) (fun j _ _ => by rw [m1]) (fun j a b => m j (by omega)), hR.r.tr (by rw [x1 9 (by decide)]) (x1 5 (by decide)) (by rw [x2]) (by rw [m1]) (by rw [m1]) v, hR.t.tr (by rw [x1 4 (by decide)]) (by rw [x2]) (by rw [m1]) (m 5 (by decide)), fun t' ht' => ?_, hR.h.tr (x1 6 (by decide)) (by rw [x2]) (fun j a b => m j (by omega))⟩, ?_, ?_⟩
  · obtain ⟨r0, r1, r2, r3, r4, r5⟩ := hR.g t' ht'
    by_cases q : t' = t
    · subst q
      obtain ⟨f0, f1, f2, f3⟩ := tg_f ht' (by omega) eg
      have e1 : τ1.2.2 42 t' = nI (g + 1) := by rw [m42, upd_at]
      obtain ⟨g0, g1, g2, g3⟩ := tg_f ht' (by omega) e1
      have tt : tgN τ1 t' (g + 1) = if p3 = 0 then (if p4 = f_X10_withinOf τ (nI b) then ((tgN τ t' g).1 + 1, (tgN τ t' g).2.1 + 1, (tgN τ t' g).2.2.1, (tgN τ t' g).2.2.2) else ((tgN τ t' g).1 + 0, (tgN τ t' g).2.1 + 1, (tgN τ t' g).2.2.1, (tgN τ t' g).2.2.2)) else if f_X10_withinOf τ (nI b) = τ.2.2 17 b then tgN τ t' g else if p4 = τ.2.2 17 b then ((tgN τ t' g).1, (tgN τ t' g).2.1, (tgN τ t' g).2.2.1 + 1, (tgN τ t' g).2.2.2 + 1) else ((tgN τ t' g).1, (tgN τ t' g).2.1, (tgN τ t' g).2.2.1 + 0, (tgN τ t' g).2.2.2 + 1) := by
        rw [tgN, tgS, m43, m44, m45, upd_at, upd_at, upd_at, dv_within v, v.2 17 (by omega), nI_clamp (show b < 2 ^ 31 by omega), cg t' g (fun k hk => by omega)]
      have y := x5 (tgN τ t' g) (r1.trans f1) (r2.trans f0) (r3.trans f3) (r4.trans f2)
      dsimp only at y
      rw [← tt] at y
      rw [e1, g0, g1, g2, g3, x4, r0, eg, nI_1]
      refine ⟨rfl, y.1, y.2.1, y.2.2.1, y.2.2.2, fun k hk => ?_⟩
      rw [nI_clamp (by omega)] at hk
      rw [m43]
      by_cases q : k = g
      · rw [q, upd_at]; exact ⟨b, hb, rfl⟩
      · rw [upd_ne (by omega)]
        exact r5 k (by rw [eg, nI_clamp (by omega)]; omega)
    · obtain ⟨g', hg', eg'⟩ := hM.given t'
      have e1 : τ1.2.2 42 t' = nI g' := by rw [m42, upd_ne q]; exact eg'
      obtain ⟨f0, f1, f2, f3⟩ := tg_f ht' hg' eg'
      obtain ⟨g0, g1, g2, g3⟩ := tg_f ht' hg' e1
      rw [cg t' g' (fun k hk => by omega)] at g0 g1 g2 g3
      rw [x3 _ _ q, x3 _ _ q, x3 _ _ q, x3 _ _ q, x3 _ _ q, g0, g1, g2, g3, ← f0, ← f1, ← f2, ← f3, e1, ← eg']
      refine ⟨r0, r1, r2, r3, r4, fun k hk => ?_⟩
      have hk' := hk
      rw [eg', nI_clamp (by omega)] at hk'
      rw [m43, upd_ne (by omega)]
      exact r5 k hk
  · have hh := hX
    unfold XInv at hh ⊢
    rw [x1 9 (by decide), x1 3 (by decide), x1 4 (by decide), x1 2 (by decide), x1 6 (by decide), x2]
    exact hh
  · have hh := hM
    unfold MInv at hh ⊢
    rw [m1, m 17 (by decide), m 18 (by decide), m 10 (by decide), m 19 (by decide), m 21 (by decide), m 16 (by decide), m 2 (by decide), m 1 (by decide), m 5 (by decide), m 56 (by decide), m 58 (by decide), m42, m43]
    refine ⟨hh.1, hh.2.1, hh.2.2.1, hh.2.2.2.1, hh.2.2.2.2.1, hh.2.2.2.2.2.1, hh.2.2.2.2.2.2.1, fun i => ?_, fun i => ?_, hh.2.2.2.2.2.2.2.2.2⟩
    · by_cases q : i = t
      · rw [q, upd_at]; exact ⟨g + 1, by omega, rfl⟩
      · rw [upd_ne q]; exact hM.given i
    · by_cases q : i = 12 * t + g
      · rw [q, upd_at]; exact vp_in_nI (by omega) (by decide)
      · rw [upd_ne q]; exact hM.gb i
theorem w_said (h : Al S σ τ) (p1 p2 p3 p4 : Int32) : Wr S (f_X9_said S σ p1 p2 p3 p4) (f_X10_said τ p1 p2 p3 p4) := by
  have h0 := h
  obtain ⟨hR, hX, hM⟩ := h
  have h24 := hX.nb.2
  have h8 := hX.nw.2
  unfold f_X9_said f_X10_said f_X9_tongueAt f_X10_isTongue
  rw [in_bel p1 5 5 (by decide) rfl, show nI (5 + 1) = (6 : Int32) from rfl]
  by_cases c1 : f_X9_isBelow p1 6 = 0
  · rw [if_pos c1, if_pos c1, if_pos rfl]
    split
    · exact Wr.no h0
    · exact Wr.no h0
  · rw [if_neg c1, if_neg c1, if_neg n10]
    obtain ⟨t, ht, rfl⟩ := below_n (m := 6) (M := 6) rfl (by decide) c1
    rcases eq_bottle hR hX p2 with ⟨q1, q2⟩ | ⟨q1, q2, b, hb, rfl⟩
    · rw [if_pos q1, if_pos q2]; exact Wr.no h0
    · rw [q1, q2, if_neg n10, if_neg n10, show f_X10_in p3.toInt64 0 1 = f_X9_isBelow p3 2 from in_bel p3 1 1 (by decide) rfl]
      by_cases c2 : f_X9_isBelow p3 2 = 0
      · rw [if_pos c2, if_pos c2]; exact Wr.no h0
      · rw [if_neg c2, if_neg c2, hX.nw.1]
        have ew : f_X10_isWine τ p4 = f_X9_isBelow p4 (nI (S 0 0)) := by
          unfold f_X10_isWine
          rw [hR.w.1]
          rcases in_n p4 (n := S 0 0) (by omega) with ⟨r1, r2⟩ | ⟨r1, i, hi, rfl⟩
          · rw [r1]
            by_cases k : f_X9_isBelow p4 (nI (S 0 0)) = 0
            · exact k.symm
            · exact absurd (below_n rfl (by omega) k) r2
          · rw [r1, f_below, if_pos ⟨nI_pos' (by omega), nI_lt hi (by omega)⟩]
        rw [ew]
        by_cases c3 : f_X9_isBelow p4 (nI (S 0 0)) = 0
        · rw [if_pos c3, if_pos c3]; exact Wr.no h0
        · obtain ⟨g, hg, eg⟩ := hM.given t
          have rg := (hR.g t ht).1
          rw [if_neg c3, if_neg c3, nI_clamp (show t < 2 ^ 31 by omega), nI_clamp (show b < 2 ^ 31 by omega), rg, eg]
          by_cases c4 : g = 12
          · subst c4
            rw [if_neg (by decide), if_pos (show nI 12 = 12 from rfl)]; exact Wr.no h0
          · have g12 : g < 12 := by omega
            have n4 : ¬ nI g = 12 := fun z => c4 (by
              have := congrArg Int32.toNatClampNeg z
              rw [nI_clamp (by omega)] at this
              exact this)
            have l4 : nI g < 12 := nI_lt (b := 12) g12 (by decide)
            rw [if_pos l4, if_neg n4]
            have e12 : (12 : Int32) * nI t = nI (12 * t) := pk_mul 12 t
            rw [ma_j (show 42 ≠ 43 by decide), ma_j (show 42 ≠ 44 by decide), ma_j (show 42 ≠ 43 by decide), ma_j (show 42 ≠ 45 by decide), ma_j (show 42 ≠ 44 by decide), ma_j (show 42 ≠ 43 by decide), eg, e12, nI_add, nI_clamp (show 12 * t + g < 2 ^ 31 by omega), nI_1, ma_k, upd_at]
            have l1 := (hX.2.1 b hb).1
            rw [(eq_within hR hM hX hb).1, (hR.w.2 _ l1).1, ← (hR.b.2 b hb).2.1]
            have st := said_st h0 ht hb g12 eg p3 p4
            have j4 := (judge_is S σ t (f_X10_withinOf τ (nI b)) (τ.2.2 17 b) p3 p4).2.2.2.1
            rw [rg, eg, nI_1] at j4
            have p01 : p3 = 1 ∨ p3 = 0 := by
              obtain ⟨k, hk, rfl⟩ := below_n (m := 2) (M := 2) rfl (by decide) c2
              have : k = 0 ∨ k = 1 := by omega
              rcases this with rfl | rfl
              · exact Or.inr rfl
              · exact Or.inl rfl
            rcases p01 with rfl | rfl
            · rw [if_pos rfl]; exact ⟨j4, st⟩
            · rw [if_neg (by decide)]; exact ⟨j4, st⟩
end W6
