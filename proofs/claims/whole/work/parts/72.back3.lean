/-! writers: back -/
theorem va_all (f g : Nat → Int32) (n i : Nat) : va_cpy f g 0 0 n i = if i < n then f i else g i := by
  by_cases h : i < n
  · rw [va_first f g n i h, if_pos h]
  · unfold va_cpy
    rw [if_neg (by omega), if_neg h]
section W9
variable {S : XSh} {σ : XSt} {τ : MSt}
theorem w_back (h : Al S σ τ) : Wr S (f_X9_back S σ) (f_X10_back τ) := by
  obtain ⟨hR, hX, hM⟩ := h
  have h8 := hX.nw.2
  have h24 := hX.nb.2
  have h6 := hX.nr.2
  obtain ⟨s, hs, es⟩ := hM.ns
  have e5 : σ.1 3 0 5 = nI s := hR.s.1.symm.trans es
  unfold f_X9_back f_X10_back
  rcases hR.i with ⟨i1, i2⟩ | ⟨i0, i1, i2, i3, i4, ⟨r, hr, er⟩, i5, i6, i7, i8⟩
  · rw [if_pos i1, if_pos i2]; exact Wr.no ⟨hR, hX, hM⟩
  · rw [if_neg i1, if_neg i0]
    obtain ⟨w, hw, ew⟩ := hX.kw
    have hw8 : w ≤ 8 := by omega
    have ew2 : τ.1 53 = nI w := i3.symm.trans ew
    rcases hX.2.2.2.2.2.2.2.2 with z | ⟨s', hs', es'⟩
    · exact absurd z i1
    rw [e5, nI_clamp (by omega)] at hs'
    have es2 : τ.1 54 = nI s' := i2.symm.trans es'
    rw [ew2, nI_clamp (by omega)] at i8
    obtain ⟨σ1, a1, a2, a3, a4⟩ := bkL16 (S := S) hw8 10 0 σ ew (Nat.zero_le _) (by omega)
    have a1' : f_X9_back_L16 10 S σ 0 = bkF S σ1 := a1
    have t0 : ∃ τ0, τ0.1 53 = nI w ∧ mp (mp τ 26 (τ.1 54)) 4 ((mp τ 26 (τ.1 54)).1 55) = τ0 ∧ τ0.1 26 = nI s' ∧ τ0.1 4 = nI r ∧ (∀ j, j ≠ 26 → j ≠ 4 → τ0.1 j = τ.1 j) ∧ τ0.2.2 = τ.2.2 := by
      refine ⟨_, ?_, rfl, ?_, ?_, fun j h1 h2 => ?_, rfl⟩
      · rw [mp_j (by decide), mp_j (by decide)]; exact ew2
      · rw [mp_j (by decide), mp_at]; exact es2
      · rw [mp_at, mp_j (by decide), ← i4, er]
      · rw [mp_j h2, mp_j h1]
    obtain ⟨τ0, u0, u1, u2, u3, u4, u5⟩ := t0
    rw [a1', u1]
    obtain ⟨τ1, b1, b2, b3, b4, b5, b6⟩ := bkL28 hw8 10 0 τ0 u0 (Nat.zero_le _) (by omega)
    have b1' : f_X10_back_L28 10 τ0 0 = (τ0.1 26, τ1) := b1
    rw [b1', u2]
    rw [u5] at b3 b4 b5 b6
    obtain ⟨c1, c2, c3, c4, c5⟩ := become_is S σ1 0 1 (by decide)
    unfold bkF
    generalize f_X0_become S σ1 0 1 = F at c1 c2 c3 c4 c5
    have g26 : τ1.1 26 = nI s' := by rw [b2, u2]
    have g4 : τ1.1 4 = nI r := by rw [b2, u3]
    have g1 (j : Nat) (h1 : j ≠ 26) (h2 : j ≠ 4) : τ1.1 j = τ.1 j := by rw [b2, u4 j h1 h2]
    have x24 : F.1 2 0 4 = nI s' := by rw [c1, a3 2 0 4 (by omega)]; exact es'
    have x23 : F.1 2 0 3 = nI r := by rw [c1, a3 2 0 3 (by omega)]; exact er
    rw [x24, x23]
    have y1 (c i f : Nat) (h1 : ¬ (c = 8 ∧ f = 5)) (h2 : ¬ (c = 9 ∧ i = 0 ∧ f = 6)) (h3 : ¬ (c = 3 ∧ i = 0 ∧ f = 5)) : (xp (xp F 9 0 6 (nI r)) 3 0 5 (nI s')).1 c i f = σ.1 c i f := by
      rw [xp_o (by omega), xp_o (by omega), c1, a3 c i f h1]
    have y85 (i : Nat) : (xp (xp F 9 0 6 (nI r)) 3 0 5 (nI s')).1 8 i 5 = if i < w then σ.2 31 0 i else σ.1 8 i 5 := by
      rw [xp_o (by omega), xp_o (by omega), c1, a4 i]
      by_cases q : i < w
      · rw [if_pos ⟨Nat.zero_le _, q⟩, if_pos q]
      · rw [if_neg (fun z => q z.2), if_neg q]
    have y96 : (xp (xp F 9 0 6 (nI r)) 3 0 5 (nI s')).1 9 0 6 = nI r := by rw [xp_o (by omega), xp_s]
    have y35 : (xp (xp F 9 0 6 (nI r)) 3 0 5 (nI s')).1 3 0 5 = nI s' := xp_s _ _ _ _ _
    have y2 (c i : Nat) (hc : ¬ (20 ≤ c ∧ c ≤ 22 ∧ i = 0)) : (xp (xp F 9 0 6 (nI r)) 3 0 5 (nI s')).2 c i = σ.2 c i := by
      show F.2 c i = _
      rw [c2 c i hc, a2]
    have y20 : (xp (xp F 9 0 6 (nI r)) 3 0 5 (nI s')).2 20 0 = va_cpy (σ.2 20 1) (σ.2 20 0) 0 0 12 := by
      show F.2 20 0 = _
      rw [c3, a2]
    have y21 : (xp (xp F 9 0 6 (nI r)) 3 0 5 (nI s')).2 21 0 = va_cpy (σ.2 21 1) (σ.2 21 0) 0 0 12 := by
      show F.2 21 0 = _
      rw [c4, a2]
    have y22 : (xp (xp F 9 0 6 (nI r)) 3 0 5 (nI s')).2 22 0 = va_cpy (σ.2 22 1) (σ.2 22 0) 0 0 3 := by
      show F.2 22 0 = _
      rw [c5, a2]
    generalize xp (xp F 9 0 6 (nI r)) 3 0 5 (nI s') = σ2 at y1 y85 y96 y35 y2 y20 y21 y22
    obtain ⟨σ4, k1, k2, k3, k4⟩ := againL2 (S := S) h24 26 0 σ2 (by rw [y1 9 0 3 (by omega) (by omega) (by omega)]; exact hX.nb.1) (Nat.zero_le _) (by omega)
    have k1' : f_X9_passOnAgain S σ2 = f_X9_passOnAgain_L33 42 S σ4 0 := k1
    have z1 : σ4.1 3 0 5 = nI s' := by rw [k2.1 3 (by decide)]; exact y35
    have s40 : s' ≤ 40 := by omega
    have p0 := PD.zero (S := S) (σ := σ4) (τ.2.2 21) (τ.2.2 22) (τ.2.2 23) (τ.2.2 25) (fun b hb => k4 b (Nat.zero_le _) hb)
    have c26 : (τ.1 26).toNatClampNeg = s := by rw [es, nI_clamp (by omega)]
    have hby : ∀ j, j < s' → ∃ q : Nat, q < 10 ∧ τ.2.2 23 j = nI q := fun j hj => (hR.s.2.2.2.2.2.2 j (by rw [c26]; omega)).1
    have hsb : ∀ i, i < s' → ∃ b : Nat, b < S 0 1 ∧ τ.2.2 21 i = nI b := fun i hi => by
      rw [← hR.s.2.1]
      exact hX.sb (by rw [e5, nI_clamp (by omega)]; omega)
    obtain ⟨m1, m2⟩ := againL33 (S := S) s40 h24 hsb hby 42 0 σ4 z1 (by rw [k2.2.1, y2 23 0 (by omega)]; exact hR.s.2.1) (by rw [k2.2.1, y2 24 0 (by omega)]; exact hR.s.2.2.1) (by rw [k2.2.1, y2 25 0 (by omega)]; exact hR.s.2.2.2.1) (by rw [k2.2.1, y2 27 0 (by omega)]; exact hR.s.2.2.2.2.2.1) p0 (Nat.zero_le _) (by omega)
    have m0 := k2.tr m1
    rw [k1']
    have lit : (0 : Int32) = nI 0 := rfl
    rw [lit]
    generalize f_X9_passOnAgain_L33 42 S σ4 (nI 0) = σ3 at m1 m2 m0
    have v1 (c : Nat) (h1 : c ≠ 1) (h8 : c ≠ 8) (h9 : c ≠ 9) (h3 : c ≠ 3) : σ3.1 c = σ.1 c := by
      rw [m0.1 c h1]
      funext i f
      exact y1 c i f (by omega) (by omega) (by omega)
    have v9 (f : Nat) (hf : f ≠ 6) : σ3.1 9 0 f = σ.1 9 0 f := by rw [m0.1 9 (by decide), y1 9 0 f (by omega) (by omega) (by omega)]
    have v96 : σ3.1 9 0 6 = nI r := by rw [m0.1 9 (by decide), y96]
    have v35 : σ3.1 3 0 5 = nI s' := by rw [m0.1 3 (by decide), y35]
    have v2 (c i : Nat) (hc : ¬ (20 ≤ c ∧ c ≤ 22 ∧ i = 0)) : σ3.2 c i = σ.2 c i := by rw [m0.2.1, y2 c i hc]
    have vc (c : Nat) (hc : ¬ (20 ≤ c ∧ c ≤ 22)) : σ3.2 c = σ.2 c := funext (fun i => v2 c i (by omega))
    have vb (b f : Nat) (hf : f < 4) : σ3.1 1 b f = σ.1 1 b f := by rw [m0.2.2 b f hf, y1 1 b f (by omega) (by omega) (by omega)]
    have v : Dw τ τ1 := fun j hj => b3 j (by omega)
    refine ⟨v35, ⟨⟨?_, fun i hi => ?_⟩, hR.b.tw (fun b f _ hf => vb b f hf) v (g1 20 (by decide) (by decide)), ⟨?_, ?_, ?_, ?_, ?_, ?_, fun j hj => ?_⟩, fun b hb => ?_, ⟨?_, ?_, ?_⟩, hR.i.tr (v1 2 (by decide) (by decide) (by decide) (by decide)) (v2 20 1 (by omega)) (v2 21 1 (by omega)) (v2 22 1 (by omega)) (vc 31 (by omega)) (fun j _ _ => g1 j (by omega) (by omega)) (fun j _ _ => b3 j (by omega)), ⟨?_, ?_, ⟨r, hr, v96⟩, fun i hi => ?_⟩, hR.t.tr (by rw [v1 4 (by decide) (by decide) (by decide) (by decide)]) (vc 28 (by omega)) (g1 6 (by decide) (by decide)) (b3 5 (by omega)), hR.g.tw (v1 7 (by decide) (by decide) (by decide) (by decide)) v (fun j _ _ => b3 j (by omega)), hR.h.tr (v1 6 (by decide) (by decide) (by decide) (by decide)) (vc 30 (by omega)) (fun j _ _ => b3 j (by omega))⟩, ?_, ?_⟩
    · rw [g1 12 (by decide) (by decide)]; exact hR.w.1
    · have q := hR.w.2 i hi
      have v8 (f : Nat) (hf : f ≠ 5) : σ3.1 8 i f = σ.1 8 i f := by rw [m0.1 8 (by decide), y1 8 i f (by omega) (by omega) (by omega)]
      have v85 : σ3.1 8 i 5 = if i < w then σ.2 31 0 i else σ.1 8 i 5 := by rw [m0.1 8 (by decide), y85]
      have b9 : τ1.2.2 9 i = if i < w then τ.2.2 48 i else τ.2.2 9 i := by
        rw [b4 i]
        by_cases q : i < w
        · rw [if_pos ⟨Nat.zero_le _, q⟩, if_pos q]
        · rw [if_neg (fun z => q z.2), if_neg q]
      rw [v8 0 (by decide), v8 1 (by decide), v8 2 (by decide), v8 3 (by decide), v8 4 (by decide), v85, b9, b3 7 (by omega), b3 8 (by omega), b3 10 (by omega), b3 11 (by omega)]
      refine ⟨q.1, q.2.1, q.2.2.1, q.2.2.2.1, q.2.2.2.2.1, ?_, q.2.2.2.2.2.2.1, q.2.2.2.2.2.2.2.1, ?_⟩
      · by_cases p : i < w
        · rw [if_pos p, if_pos p]; exact (i8 i p).1
        · rw [if_neg p, if_neg p]; exact q.2.2.2.2.2.1
      · by_cases p : i < w
        · rw [if_pos p]; exact (i8 i p).2
        · rw [if_neg p]; exact q.2.2.2.2.2.2.2.2
    · rw [g26, v35]
    · rw [vc 23 (by omega), b3 21 (by omega)]; exact hR.s.2.1
    · rw [vc 24 (by omega), b3 22 (by omega)]; exact hR.s.2.2.1
    · rw [vc 25 (by omega), b3 23 (by omega)]; exact hR.s.2.2.2.1
    · rw [vc 26 (by omega), b3 24 (by omega)]; exact hR.s.2.2.2.2.1
    · rw [vc 27 (by omega), b3 25 (by omega)]; exact hR.s.2.2.2.2.2.1
    · rw [g26, nI_clamp (by omega)] at hj
      rw [b3 22 (by omega), b3 23 (by omega), b3 24 (by omega)]
      exact hR.s.2.2.2.2.2.2 j (by rw [c26]; omega)
    · obtain ⟨d5, d6, d7, d8, di, c, hc, ec⟩ := m2 b hb
      rw [ow_is s40 g26, gp_is s40 g26, ch_is s40 g26, ly_is s40 g26, b3 21 (by omega), b3 22 (by omega), b3 23 (by omega), b3 25 (by omega), g26, nI_clamp (by omega)]
      exact ⟨d5, d6, d7, d8, ⟨c, by omega, ec⟩, di, c, hc, ec⟩
    · funext i
      rw [m0.2.1, y20, va_all, (b5 i).1]
      by_cases q : i < 12
      · rw [if_pos q, if_pos q]; exact i5 i q
      · rw [if_neg q, if_neg q]; exact congrFun hR.k.1 i
    · funext i
      rw [m0.2.1, y21, va_all, (b5 i).2]
      by_cases q : i < 12
      · rw [if_pos q, if_pos q]; exact i6 i q
      · rw [if_neg q, if_neg q]; exact congrFun hR.k.2.1 i
    · funext i
      rw [m0.2.1, y22, va_all, b6 i]
      by_cases q : i < 3
      · rw [if_pos q, if_pos q]; exact i7 i q
      · rw [if_neg q, if_neg q]; exact congrFun hR.k.2.2 i
    · rw [g1 3 (by decide) (by decide)]; exact hR.r.1
    · rw [g4, v96]
    · rw [dw_txt v, vc 32 (by omega), v1 5 (by decide) (by decide) (by decide) (by decide)]
      exact hR.r.2.2.2 i hi
    · have hh := hX
      unfold XInv at hh ⊢
      rw [v9 1 (by decide), v9 3 (by decide), v9 5 (by decide), v35, v1 4 (by decide) (by decide) (by decide) (by decide), v1 6 (by decide) (by decide) (by decide) (by decide), v1 2 (by decide) (by decide) (by decide) (by decide), vc 23 (by omega), nI_clamp (by omega)]
      refine ⟨hh.1, hh.2.1, ⟨s', s40, rfl⟩, fun i hi => ?_, hh.2.2.2.2.1, hh.2.2.2.2.2.1, hh.2.2.2.2.2.2.1, hh.2.2.2.2.2.2.2.1, Or.inr ⟨s', Nat.le_refl _, es'⟩⟩
      exact hX.sb (by rw [e5, nI_clamp (by omega)]; omega)
    · have hh := hM
      have hir := hM.ir
      have e55 : τ.1 55 = nI r := i4.symm.trans er
      rw [e55] at hir
      unfold MInv at hh ⊢
      rw [g1 12 (by decide) (by decide), g1 20 (by decide) (by decide), g26, g1 3 (by decide) (by decide), g1 6 (by decide) (by decide), g4, g1 53 (by decide) (by decide), g1 54 (by decide) (by decide), g1 55 (by decide) (by decide), b3 17 (by decide), b3 18 (by decide), b3 10 (by decide), b3 19 (by decide), b3 21 (by decide), b3 16 (by decide), b3 42 (by decide), b3 43 (by decide), b3 56 (by decide), b3 58 (by decide), b3 2 (by decide), b3 1 (by decide), b3 5 (by decide)]
      exact ⟨⟨hh.1.1, hh.1.2.1, ⟨s', s40, rfl⟩, hh.1.2.2.2⟩, hh.2.1, hh.2.2.1, hh.2.2.2.1, hh.2.2.2.2.1, hh.2.2.2.2.2.1, hh.2.2.2.2.2.2.1, hh.2.2.2.2.2.2.2.1, hh.2.2.2.2.2.2.2.2.1, hh.2.2.2.2.2.2.2.2.2.1, hh.2.2.2.2.2.2.2.2.2.2.1, hir, hh.2.2.2.2.2.2.2.2.2.2.2.2⟩
end W9
