/-! writers: wine; and what the reference's reading leaves alike -/
theorem Sm.dv {τ τ' : MSt} (h : Sm τ τ') : Dv τ τ' := ⟨h.2 26 (by omega), fun j _ => by rw [h.1]⟩
theorem Rel.smR {S : XSh} {σ : XSt} {τ τ' : MSt} (h : Rel S σ τ) (k : Sm τ τ') : Rel S σ τ' := by
  have a (j : Nat) : τ'.2.2 j = τ.2.2 j := by rw [k.1]
  exact ⟨h.w.tr rfl (k.2 12 (by omega)) (fun j _ _ => a j), h.b.tr rfl k.dv (k.2 20 (by omega)) (a 10), h.s.tr rfl (fun _ _ _ => rfl) k.dv, h.d.tr rfl k.dv, h.k.tr (fun _ _ _ => rfl) (fun j _ _ => a j), h.i.tr rfl rfl rfl rfl rfl (fun j _ _ => k.2 j (by omega)) (fun j _ _ => a j), h.r.tr rfl rfl rfl (k.2 3 (by omega)) (k.2 4 (by omega)) k.dv, h.t.tr rfl rfl (k.2 6 (by omega)) (a 5), h.g.tr rfl k.dv (fun j _ _ => a j), h.h.tr rfl rfl (fun j _ _ => a j)⟩
theorem Al.smR {S : XSh} {σ : XSt} {τ τ' : MSt} (h : Al S σ τ) (k : Sm τ τ') : Al S σ τ' := ⟨h.1.smR k, h.2.1, h.2.2.sm k⟩
theorem Al.q {S : XSh} {σ σ' : XSt} {τ : MSt} (h : Al S σ τ) (k : XQ σ σ') : Al S σ' τ := ⟨h.1.q k, h.2.1.q k, h.2.2⟩
section WI
variable {S : XSh} {σ : XSt} {τ : MSt}
theorem wine_rel (h : Al S σ τ) {n : Nat} (hn : S 0 0 = n) (h8 : n < 8) {a b c e : Int32} (hb : ∃ k : Nat, k ≤ 999 ∧ b = nI k) (hc : f_X10_areParts c = 1) (he : ∃ k : Nat, k ≤ 999999 ∧ e = nI k) : Al (SU S 0 0 (n + 1)) (wiS σ n a b c e) (mp (ma (ma (ma (ma (ma τ 7 n a) 8 n b) 9 n 0) 10 n c) 11 n e) 12 (nI (n + 1))) := by
  obtain ⟨hR, hX, hM⟩ := h
  have s00 : SU S 0 0 (n + 1) 0 0 = n + 1 := SU_s _ _ _ _
  have s01 : SU S 0 0 (n + 1) 0 1 = S 0 1 := SU_n (by omega)
  have s02 : SU S 0 0 (n + 1) 0 2 = S 0 2 := SU_n (by omega)
  have sn (j : Nat) (hj : j ≠ 0) : SU S 0 0 (n + 1) j = S j := funext (fun _ => SU_n (fun z => hj z.1))
  have w2 : (wiS σ n a b c e).2 = σ.2 := rfl
  have w0 : (wiS σ n a b c e).1 8 n 0 = nI n := by unfold wiS; dsimp only; rw [if_pos ⟨rfl, rfl⟩]; rfl
  have w1 : (wiS σ n a b c e).1 8 n 1 = a := by unfold wiS; dsimp only; rw [if_pos ⟨rfl, rfl⟩]; rfl
  have w2' : (wiS σ n a b c e).1 8 n 2 = b := by unfold wiS; dsimp only; rw [if_pos ⟨rfl, rfl⟩]; rfl
  have w3 : (wiS σ n a b c e).1 8 n 3 = c := by unfold wiS; dsimp only; rw [if_pos ⟨rfl, rfl⟩]; rfl
  have w4 : (wiS σ n a b c e).1 8 n 4 = e := by unfold wiS; dsimp only; rw [if_pos ⟨rfl, rfl⟩]; rfl
  have w5 : (wiS σ n a b c e).1 8 n 5 = 0 := by unfold wiS; dsimp only; rw [if_pos ⟨rfl, rfl⟩]; rfl
  have wi (i k : Nat) (hi : i ≠ n) : (wiS σ n a b c e).1 8 i k = σ.1 8 i k := by
    unfold wiS; dsimp only; rw [if_neg (fun z => hi z.2), if_neg (fun z => absurd z.1 (by decide))]
  have wc (x : Nat) (h1 : x ≠ 8) (h2 : x ≠ 9) : (wiS σ n a b c e).1 x = σ.1 x := by
    funext i k
    unfold wiS; dsimp only; rw [if_neg (fun z => h1 z.1), if_neg (fun z => h2 z.1)]
  have w91 : (wiS σ n a b c e).1 9 0 1 = nI (n + 1) := by
    unfold wiS; dsimp only; rw [if_neg (fun z => absurd z.1 (by decide)), if_pos ⟨rfl, rfl, rfl⟩]
  have w9 (k : Nat) (hk : k ≠ 1) : (wiS σ n a b c e).1 9 0 k = σ.1 9 0 k := by
    unfold wiS; dsimp only; rw [if_neg (fun z => absurd z.1 (by decide)), if_neg (fun z => hk z.2.2)]
  generalize wiS σ n a b c e = σ1 at *
  have v : Dv τ (mp (ma (ma (ma (ma (ma τ 7 n a) 8 n b) 9 n 0) 10 n c) 11 n e) 12 (nI (n + 1))) := ((((((Dv.rf τ).ma (by omega)).ma (by omega)).ma (by omega)).ma (by omega)).ma (by omega)).mp (by decide)
  have m (j : Nat) (hj : ¬ (7 ≤ j ∧ j ≤ 11)) : (mp (ma (ma (ma (ma (ma τ 7 n a) 8 n b) 9 n 0) 10 n c) 11 n e) 12 (nI (n + 1))).2.2 j = τ.2.2 j := ((((ma_j (by omega)).trans (ma_j (by omega))).trans (ma_j (by omega))).trans (ma_j (by omega))).trans (ma_j (by omega))
  have m1 (j : Nat) (hj : j ≠ 12) : (mp (ma (ma (ma (ma (ma τ 7 n a) 8 n b) 9 n 0) 10 n c) 11 n e) 12 (nI (n + 1))).1 j = τ.1 j := mp_j hj
  have m12 : (mp (ma (ma (ma (ma (ma τ 7 n a) 8 n b) 9 n 0) 10 n c) 11 n e) 12 (nI (n + 1))).1 12 = nI (n + 1) := mp_at _ _ _
  have m7 : (mp (ma (ma (ma (ma (ma τ 7 n a) 8 n b) 9 n 0) 10 n c) 11 n e) 12 (nI (n + 1))).2.2 7 = upd (τ.2.2 7) n a := by
    show (ma (ma (ma (ma (ma τ 7 n a) 8 n b) 9 n 0) 10 n c) 11 n e).2.2 7 = _
    rw [ma_j (by decide), ma_j (by decide), ma_j (by decide), ma_j (by decide), ma_k]
  have m8 : (mp (ma (ma (ma (ma (ma τ 7 n a) 8 n b) 9 n 0) 10 n c) 11 n e) 12 (nI (n + 1))).2.2 8 = upd (τ.2.2 8) n b := by
    show (ma (ma (ma (ma (ma τ 7 n a) 8 n b) 9 n 0) 10 n c) 11 n e).2.2 8 = _
    rw [ma_j (by decide), ma_j (by decide), ma_j (by decide), ma_k, ma_j (by decide)]
  have m9 : (mp (ma (ma (ma (ma (ma τ 7 n a) 8 n b) 9 n 0) 10 n c) 11 n e) 12 (nI (n + 1))).2.2 9 = upd (τ.2.2 9) n 0 := by
    show (ma (ma (ma (ma (ma τ 7 n a) 8 n b) 9 n 0) 10 n c) 11 n e).2.2 9 = _
    rw [ma_j (by decide), ma_j (by decide), ma_k, ma_j (by decide), ma_j (by decide)]
  have m10 : (mp (ma (ma (ma (ma (ma τ 7 n a) 8 n b) 9 n 0) 10 n c) 11 n e) 12 (nI (n + 1))).2.2 10 = upd (τ.2.2 10) n c := by
    show (ma (ma (ma (ma (ma τ 7 n a) 8 n b) 9 n 0) 10 n c) 11 n e).2.2 10 = _
    rw [ma_j (by decide), ma_k, ma_j (by decide), ma_j (by decide), ma_j (by decide)]
  have m11 : (mp (ma (ma (ma (ma (ma τ 7 n a) 8 n b) 9 n 0) 10 n c) 11 n e) 12 (nI (n + 1))).2.2 11 = upd (τ.2.2 11) n e := by
    show (ma (ma (ma (ma (ma τ 7 n a) 8 n b) 9 n 0) 10 n c) 11 n e).2.2 11 = _
    rw [ma_k, ma_j (by decide), ma_j (by decide), ma_j (by decide), ma_j (by decide)]
  generalize mp (ma (ma (ma (ma (ma τ 7 n a) 8 n b) 9 n 0) 10 n c) 11 n e) 12 (nI (n + 1)) = τ1 at *
  have h24 := hX.nb.2
  refine ⟨⟨⟨?_, fun i hi => ?_⟩, ⟨?_, fun b' hb' => ?_⟩, hR.s.tr (wc 3 (by decide) (by decide)) (fun c _ _ => by rw [w2]) v, fun b' hb' => ?_, hR.k.tr (fun c _ _ => by rw [w2]) (fun j _ _ => m j (by omega)), ?_, ?_, hR.t.tr (by rw [wc 4 (by decide) (by decide)]) (by rw [w2]) (m1 6 (by decide)) (m 5 (by decide)), ?_, hR.h.tr (wc 6 (by decide) (by decide)) (by rw [w2]) (fun j _ _ => m j (by omega))⟩, ?_, ?_⟩
  · rw [m12, s00]
  · rw [s00] at hi
    rw [m7, m8, m9, m10, m11]
    by_cases q : i = n
    · subst q
      rw [upd_at, upd_at, upd_at, upd_at, upd_at]
      exact ⟨w0, w1, w2', w3, w4, w5, he, hb, ⟨0, by decide, rfl⟩⟩
    · rw [upd_ne q, upd_ne q, upd_ne q, upd_ne q, upd_ne q, wi i 0 q, wi i 1 q, wi i 2 q, wi i 3 q, wi i 4 q, wi i 5 q]
      exact hR.w.2 i (by omega)
  · rw [m1 20 (by decide), s01]; exact hR.b.1
  · rw [s01] at hb'
    have hB := hR.b.2 b' hb'
    have l1 := (hX.2.1 b' hb').1
    rw [wc 1 (by decide) (by decide), m 16 (by decide), m 17 (by decide), m 18 (by decide), sn 1 (by decide), sn 2 (by decide)]
    refine ⟨hB.1, hB.2.1, hB.2.2.1, fun p hp => ?_⟩
    rw [hB.2.2.2 p hp]
    have en : (τ.2.2 17 (nI b').toNatClampNeg).toNatClampNeg = S 1 b' := by rw [nI_clamp (show b' < 2 ^ 31 by omega), hB.2.1, nI_clamp (by omega)]
    have e10 : τ1.2.2 10 (τ.2.2 17 (nI b').toNatClampNeg).toNatClampNeg = τ.2.2 10 (τ.2.2 17 (nI b').toNatClampNeg).toNatClampNeg := by
      rw [en, m10, upd_ne (by omega)]
    unfold f_X10_showsOf
    rw [m 16 (by decide), m 17 (by decide), m 19 (by decide), e10]
  · rw [s01] at hb'
    exact hR.d.tr (wc 1 (by decide) (by decide)) v b' hb'
  · have := hR.i.tr (σ' := σ1) (τ' := τ1) (wc 2 (by decide) (by decide)) (by rw [w2]) (by rw [w2]) (by rw [w2]) (by rw [w2]) (fun j _ _ => m1 j (by omega)) (fun j _ _ => m j (by omega))
    unfold RelI at this ⊢
    rw [s02]; exact this
  · have := hR.r.tr (σ' := σ1) (τ' := τ1) (w9 6 (by decide)) (wc 5 (by decide) (by decide)) (by rw [w2]) (m1 3 (by decide)) (m1 4 (by decide)) v
    unfold RelR at this ⊢
    rw [s02, sn 5 (by decide)]; exact this
  · have := hR.g.tr (σ' := σ1) (τ' := τ1) (wc 7 (by decide) (by decide)) v (fun j _ _ => m j (by omega))
    unfold RelG at this ⊢
    rw [s01]; exact this
  · have hh := hX
    unfold XInv at hh ⊢
    rw [s00, s01, s02, sn 1 (by decide), sn 2 (by decide), sn 5 (by decide), w91, w9 3 (by decide), w9 5 (by decide), wc 3 (by decide) (by decide), wc 4 (by decide) (by decide), wc 6 (by decide) (by decide), wc 2 (by decide) (by decide), w2]
    obtain ⟨x1, x2, x3, x4, x5, x6, x7, ⟨k, hk, ek⟩, x9⟩ := hh
    exact ⟨⟨⟨rfl, by omega⟩, x1.2⟩, fun i hi => ⟨by have := (x2 i hi).1; omega, by have := (x2 i hi).2; omega⟩, x3, x4, x5, x6, x7, ⟨k, by omega, ek⟩, x9⟩
  · have hh := hM
    unfold MInv at hh ⊢
    rw [m12, m1 20 (by decide), m1 26 (by decide), m1 3 (by decide), m1 6 (by decide), m1 4 (by decide), m1 53 (by decide), m1 54 (by decide), m1 55 (by decide), m 17 (by decide), m 18 (by decide), m10, m 19 (by decide), m 21 (by decide), m 16 (by decide), m 42 (by decide), m 43 (by decide), m 56 (by decide), m 58 (by decide), m 2 (by decide), m 1 (by decide), m 5 (by decide)]
    refine ⟨⟨⟨n + 1, by omega, rfl⟩, hh.1.2⟩, hh.2.1, hh.2.2.1, fun i => ?_, hh.2.2.2.2⟩
    by_cases q : i = n
    · rw [q, upd_at]; exact hc
    · rw [upd_ne q]; exact hh.2.2.2.1 i
theorem ap_01 (c : Int32) : f_X9_areParts c = 0 ∨ f_X9_areParts c = 1 := by
  unfold f_X9_areParts
  (repeat' split) <;> first | exact Or.inl rfl | exact Or.inr rfl
theorem wine_or (h : Al S σ τ) (a b c e : Int32) : (wiBad a b c e ∧ f_X10_wine τ a b c e = (-2, τ)) ∨ (¬ wiBad a b c e ∧ 8 ≤ S 0 0 ∧ f_X10_wine τ a b c e = (-4, τ)) ∨ (¬ wiBad a b c e ∧ S 0 0 < 8 ∧ (f_X10_wine τ a b c e).1 = nI (S 0 0) ∧ Al (SU S 0 0 (S 0 0 + 1)) (wiS σ (S 0 0) a b c e) (f_X10_wine τ a b c e).2) := by
  have h0 := h
  obtain ⟨hR, hX, hM⟩ := h
  have h8 := hX.nw.2
  have ew := hR.w.1
  unfold f_X10_wine wiBad
  rw [in_up a 99 99 rfl, in_up b 999 999 rfl, ← eq_areParts c, in_up e 999999 999999 rfl]
  by_cases c1 : f_X9_isUpTo a 99 = 0
  · rw [if_pos c1]; exact Or.inl ⟨Or.inl c1, rfl⟩
  · rw [if_neg c1]
    by_cases c2 : f_X9_isUpTo b 999 = 0
    · rw [if_pos c2]; exact Or.inl ⟨Or.inr (Or.inl c2), rfl⟩
    · rw [if_neg c2]
      by_cases c3 : f_X9_areParts c = 0
      · rw [if_pos c3]; exact Or.inl ⟨Or.inr (Or.inr (Or.inl c3)), rfl⟩
      · rw [if_neg c3]
        by_cases c4 : f_X9_isUpTo e 999999 = 0
        · rw [if_pos c4]; exact Or.inl ⟨Or.inr (Or.inr (Or.inr c4)), rfl⟩
        · rw [if_neg c4]
          have nb : ¬ (f_X9_isUpTo a 99 = 0 ∨ f_X9_isUpTo b 999 = 0 ∨ f_X9_areParts c = 0 ∨ f_X9_isUpTo e 999999 = 0) := fun z => by
            rcases z with z | z | z | z
            · exact c1 z
            · exact c2 z
            · exact c3 z
            · exact c4 z
          by_cases c5 : S 0 0 = 8
          · have e8 : τ.1 12 = 8 := by rw [ew, c5]; rfl
            rw [if_pos e8]
            exact Or.inr (Or.inl ⟨nb, by omega, rfl⟩)
          · have n8 : ¬ τ.1 12 = 8 := fun z => c5 (by
              have := congrArg Int32.toNatClampNeg (ew.symm.trans z)
              rw [nI_clamp (by omega)] at this
              exact this)
            rw [if_neg n8]
            have ar : f_X10_areParts c = 1 := by
              rw [← eq_areParts c]
              rcases ap_01 c with z | z
              · exact absurd z c3
              · exact z
            refine Or.inr (Or.inr ⟨nb, by omega, ?_, ?_⟩)
            · show upd τ.1 12 (τ.1 12 + 1) 12 - 1 = nI (S 0 0)
              rw [upd_at, ew, nI_1, nI_pred]
            · have r := wine_rel h0 (n := S 0 0) rfl (by omega) (a := a) (up_n (N := 999) rfl (by decide) c2) ar (up_n (N := 999999) rfl (by decide) c4)
              have r2 : Al (SU S 0 0 (S 0 0 + 1)) (wiS σ (S 0 0) a b c e) (mp (ma (ma (ma (ma (ma τ 7 (τ.1 12).toNatClampNeg a) 8 (τ.1 12).toNatClampNeg b) 9 (τ.1 12).toNatClampNeg 0) 10 (τ.1 12).toNatClampNeg c) 11 (τ.1 12).toNatClampNeg e) 12 (τ.1 12 + 1)) := by
                rw [ew, nI_clamp (show S 0 0 < 2 ^ 31 by omega), nI_1]
                exact r
              exact r2
end WI
