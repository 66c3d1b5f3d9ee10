/-! writers: bottle -/
/-- of what its label shows and its own, a part of a kind's bottle -/
def shP (m W O p : Int32) : Int32 := f_X9_partOf (if ((m >>> (p &&& 31)) &&& (1 : Int32)) = 1 then W else O) p
theorem shL_s (n : Nat) (a W O m l4 p : Int32) (h : ¬ (3 : Int32) ≤ p) : f_X1_shownParts_L24 (n + 1) a W O m l4 p = f_X1_shownParts_L24 n a W O m (l4 * 10 + shP m W O p) (p + 1) := by
  rw [f_X1_shownParts_L24, if_neg h]
  unfold shP
  by_cases c : ((m >>> (p &&& 31)) &&& (1 : Int32)) = 1
  · rw [if_pos c, if_pos c]
  · rw [if_neg c, if_neg c]
theorem shL_is (a W O m : Int32) : f_X1_shownParts_L24 5 a W O m 0 0 = ((0 * 10 + shP m W O 0) * 10 + shP m W O 1) * 10 + shP m W O 2 := by
  rw [shL_s _ _ _ _ _ _ _ (by decide), shL_s _ _ _ _ _ _ _ (by decide), shL_s _ _ _ _ _ _ _ (by decide), f_X1_shownParts_L24, if_pos (by decide)]
  rfl
set_option maxRecDepth 100000 in
theorem sh_tab : ∀ d0, d0 < 4 → ∀ d1, d1 < 4 → ∀ d2, d2 < 4 → f_X9_partOf (((0 * 10 + nI d0) * 10 + nI d1) * 10 + nI d2) 0 = nI d0 ∧ f_X9_partOf (((0 * 10 + nI d0) * 10 + nI d1) * 10 + nI d2) 1 = nI d1 ∧ f_X9_partOf (((0 * 10 + nI d0) * 10 + nI d1) * 10 + nI d2) 2 = nI d2 := by decide +kernel
theorem shP_n {m W O p : Int32} (hW : f_X10_areParts W = 1) (hO : f_X10_areParts O = 1) (hp : P3 p) : ∃ d : Nat, d < 4 ∧ shP m W O p = nI d := by
  refine vp_in_of ?_ (by decide)
  unfold shP
  split
  · exact parts_ok hW hp
  · exact parts_ok hO hp
theorem shown_p {k : Nat} (hk : k < 6) {W O p : Int32} (hW : f_X10_areParts W = 1) (hO : f_X10_areParts O = 1) (hp : P3 p) : f_X9_partOf (f_X1_shownParts (nI k) W O) p = shP (tabV 2 k) W O p := by
  have e : f_X1_shownParts (nI k) W O = ((0 * 10 + shP (tabV 2 k) W O 0) * 10 + shP (tabV 2 k) W O 1) * 10 + shP (tabV 2 k) W O 2 := by
    have e1 : f_X9_isUpTo (nI k) 5 = 1 := by rw [f_upTo, if_pos ⟨nI_pos' (by omega), nI_le (b := 5) (by omega) (by decide)⟩]
    unfold f_X1_shownParts
    rw [e1, if_neg n10, nI_clamp (by omega), shL_is]
  rw [e]
  obtain ⟨d0, h0, e0⟩ := shP_n (m := tabV 2 k) hW hO P3.a
  obtain ⟨d1, h1, e1⟩ := shP_n (m := tabV 2 k) hW hO P3.b
  obtain ⟨d2, h2, e2⟩ := shP_n (m := tabV 2 k) hW hO P3.c
  rw [e0, e1, e2]
  obtain ⟨t0, t1, t2⟩ := sh_tab d0 h0 d1 h1 d2 h2
  rcases hp with rfl | rfl | rfl
  · rw [t0, e0]
  · rw [t1, e1]
  · rw [t2, e2]
theorem sh_0 (W O p : Int32) (hp : P3 p) : shP (tabV 2 0) W O p = f_X9_partOf O p := by
  rcases hp with rfl | rfl | rfl <;> (unfold shP; rw [if_neg (by decide)])
theorem sh_1 (W O p : Int32) (hp : P3 p) : shP (tabV 2 1) W O p = f_X9_partOf W p := by
  rcases hp with rfl | rfl | rfl <;> (unfold shP; rw [if_pos (by decide)])
theorem sh_2 (W O p : Int32) (hp : P3 p) : shP (tabV 2 2) W O p = if p = 0 then f_X9_partOf W p else f_X9_partOf O p := by
  rcases hp with rfl | rfl | rfl
  · unfold shP; rw [if_pos (by decide), if_pos rfl]
  · unfold shP; rw [if_neg (by decide), if_neg (by decide)]
  · unfold shP; rw [if_neg (by decide), if_neg (by decide)]
theorem sh_3 (W O p : Int32) (hp : P3 p) : shP (tabV 2 3) W O p = if p = 2 then f_X9_partOf O p else f_X9_partOf W p := by
  rcases hp with rfl | rfl | rfl
  · unfold shP; rw [if_pos (by decide), if_neg (by decide)]
  · unfold shP; rw [if_pos (by decide), if_neg (by decide)]
  · unfold shP; rw [if_neg (by decide), if_pos rfl]
theorem sh_4 (W O p : Int32) (hp : P3 p) : shP (tabV 2 4) W O p = if p = 2 then f_X9_partOf O p else f_X9_partOf W p := by
  rcases hp with rfl | rfl | rfl
  · unfold shP; rw [if_pos (by decide), if_neg (by decide)]
  · unfold shP; rw [if_pos (by decide), if_neg (by decide)]
  · unfold shP; rw [if_neg (by decide), if_pos rfl]
theorem sh_5 (W O p : Int32) (hp : P3 p) : shP (tabV 2 5) W O p = f_X9_partOf O p := by
  rcases hp with rfl | rfl | rfl <;> (unfold shP; rw [if_neg (by decide)])
/-- a new bottle's parts: as the reference has them -/
theorem shows_new {τ : MSt} {n k : Nat} (hn : n < 24) (hk : k < 6) {l : Nat} (hl : l < 8) (e16 : τ.2.2 16 n = nI k) (e17 : τ.2.2 17 n = nI l) {p : Int32} (hp : P3 p) (hW : f_X10_areParts (τ.2.2 10 l) = 1) (hO : f_X10_areParts (τ.2.2 19 n) = 1) : f_X9_partOf (f_X1_shownParts (nI k) (τ.2.2 10 l) (τ.2.2 19 n)) p = f_X10_showsOf τ (nI n) p := by
  rw [shown_p hk hW hO hp]
  unfold f_X10_showsOf
  rw [nI_clamp (show n < 2 ^ 31 by omega), e16, e17, nI_clamp (show l < 2 ^ 31 by omega)]
  have ep : ∀ x, f_X10_partOf x p = f_X9_partOf x p := fun x => (eq_partOf x p).symm
  rw [ep, ep]
  have c : k = 0 ∨ k = 1 ∨ k = 2 ∨ k = 3 ∨ k = 4 ∨ k = 5 := by omega
  rcases c with rfl | rfl | rfl | rfl | rfl | rfl
  · rw [sh_0 _ _ _ hp, if_neg (by decide), if_neg (by decide), if_neg (by decide), if_neg (by decide)]
  · rw [sh_1 _ _ _ hp, if_pos (by decide)]
  · rw [sh_2 _ _ _ hp, if_neg (show ¬ nI 2 = (1 : Int32) by decide), if_pos (show nI 2 = (2 : Int32) by decide)]
  · rw [sh_3 _ _ _ hp, if_neg (show ¬ nI 3 = (1 : Int32) by decide), if_neg (show ¬ nI 3 = (2 : Int32) by decide), if_pos (show nI 3 = (3 : Int32) by decide)]
  · rw [sh_4 _ _ _ hp, if_neg (show ¬ nI 4 = (1 : Int32) by decide), if_neg (show ¬ nI 4 = (2 : Int32) by decide), if_neg (show ¬ nI 4 = (3 : Int32) by decide), if_pos (show nI 4 = (4 : Int32) by decide)]
  · rw [sh_5 _ _ _ hp, if_neg (by decide), if_neg (by decide), if_neg (by decide), if_neg (by decide)]
/-- no sale of it -/
theorem none_N {sb ss sy : Nat → Int32} {b : Int32} : ∀ s, (∀ i, i < s → ¬ sb i = b) → lastN sb b s = none ∧ gpN sb ss sy b s = 0 ∧ chN sb ss sy b s = 0
  | 0, _ => ⟨rfl, rfl, rfl⟩
  | s + 1, h => by
    obtain ⟨a, b', c⟩ := none_N (ss := ss) (sy := sy) s (fun i hi => h i (by omega))
    have n := h s (by omega)
    rw [lastN, gpN, chN, if_neg n, if_neg n, if_neg n, a, b', c]
    exact ⟨rfl, rfl, rfl⟩
theorem tgN_cg2 {τ τ' : MSt} {t g : Nat} (h : ∀ k, k < g → τ'.2.2 43 (12 * t + k) = τ.2.2 43 (12 * t + k) ∧ τ'.2.2 44 (12 * t + k) = τ.2.2 44 (12 * t + k) ∧ τ'.2.2 45 (12 * t + k) = τ.2.2 45 (12 * t + k) ∧ f_X10_withinOf τ' (τ.2.2 43 (12 * t + k)) = f_X10_withinOf τ (τ.2.2 43 (12 * t + k)) ∧ τ'.2.2 17 (τ.2.2 43 (12 * t + k)).toNatClampNeg = τ.2.2 17 (τ.2.2 43 (12 * t + k)).toNatClampNeg) : ∀ k, k ≤ g → tgN τ' t k = tgN τ t k
  | 0, _ => rfl
  | k + 1, hk => by
    obtain ⟨a, b, c, d, e⟩ := h k (by omega)
    rw [tgN, tgN, tgN_cg2 h k (by omega), tgS, tgS, a, b, c, d, e]
section BO
variable {S : XSh} {σ : XSt} {τ : MSt}
theorem bottle_rel (h : Al S σ τ) {n : Nat} (hn : S 0 1 = n) (h24 : n < 24) {k l m : Nat} {p : Int32} (hk : k < 6) (hl : l < S 0 0) (hm : m < S 0 0) (hp : f_X10_areParts p = 1) : Al (boU S n l m) (boS σ n (nI k) (f_X1_shownParts (nI k) (σ.1 8 l 3) p)) (mp (ma (ma (ma (ma τ 16 n (nI k)) 17 n (nI l)) 18 n (nI m)) 19 n p) 20 (nI (n + 1))) := by
  obtain ⟨hR, hX, hM⟩ := h
  have h8 := hX.nw.2
  obtain ⟨s, hs, es⟩ := hM.ns
  have e5 : σ.1 3 0 5 = nI s := hR.s.1.symm.trans es
  have s00 : boU S n l m 0 0 = S 0 0 := by rw [boU_0, if_neg (by decide)]
  have s01 : boU S n l m 0 1 = n + 1 := by rw [boU_0, if_pos rfl]
  have s02 : boU S n l m 0 2 = S 0 2 := by rw [boU_0, if_neg (by decide)]
  have s5 : boU S n l m 5 = S 5 := funext (fun i => boU_5 S n l m i)
  have s1 (b : Nat) (hb : b ≠ n) : boU S n l m 1 b = S 1 b := by rw [boU_1, if_neg hb]
  have s2 (b : Nat) (hb : b ≠ n) : boU S n l m 2 b = S 2 b := by rw [boU_2, if_neg hb]
  have s1n : boU S n l m 1 n = l := by rw [boU_1, if_pos rfl]
  have s2n : boU S n l m 2 n = m := by rw [boU_2, if_pos rfl]
  generalize boU S n l m = S1 at *
  have w2 : (boS σ n (nI k) (f_X1_shownParts (nI k) (σ.1 8 l 3) p)).2 = σ.2 := rfl
  have w0 : (boS σ n (nI k) (f_X1_shownParts (nI k) (σ.1 8 l 3) p)).1 1 n 0 = nI k := by unfold boS; dsimp only; rw [if_pos ⟨rfl, rfl⟩]; rfl
  have w3 : (boS σ n (nI k) (f_X1_shownParts (nI k) (σ.1 8 l 3) p)).1 1 n 3 = f_X1_shownParts (nI k) (σ.1 8 l 3) p := by unfold boS; dsimp only; rw [if_pos ⟨rfl, rfl⟩]; rfl
  have w4 : (boS σ n (nI k) (f_X1_shownParts (nI k) (σ.1 8 l 3) p)).1 1 n 4 = 0 := by unfold boS; dsimp only; rw [if_pos ⟨rfl, rfl⟩]; rfl
  have w5 : (boS σ n (nI k) (f_X1_shownParts (nI k) (σ.1 8 l 3) p)).1 1 n 5 = -1 := by unfold boS; dsimp only; rw [if_pos ⟨rfl, rfl⟩]; rfl
  have w6 : (boS σ n (nI k) (f_X1_shownParts (nI k) (σ.1 8 l 3) p)).1 1 n 6 = 0 := by unfold boS; dsimp only; rw [if_pos ⟨rfl, rfl⟩]; rfl
  have w7 : (boS σ n (nI k) (f_X1_shownParts (nI k) (σ.1 8 l 3) p)).1 1 n 7 = 0 := by unfold boS; dsimp only; rw [if_pos ⟨rfl, rfl⟩]; rfl
  have w8 : (boS σ n (nI k) (f_X1_shownParts (nI k) (σ.1 8 l 3) p)).1 1 n 8 = 0 := by unfold boS; dsimp only; rw [if_pos ⟨rfl, rfl⟩]; rfl
  have wi (i j : Nat) (hi : i ≠ n) : (boS σ n (nI k) (f_X1_shownParts (nI k) (σ.1 8 l 3) p)).1 1 i j = σ.1 1 i j := by
    unfold boS; dsimp only; rw [if_neg (fun z => hi z.2), if_neg (fun z => absurd z.1 (by decide))]
  have wc (x : Nat) (h1 : x ≠ 1) (h2 : x ≠ 9) : (boS σ n (nI k) (f_X1_shownParts (nI k) (σ.1 8 l 3) p)).1 x = σ.1 x := by
    funext i j
    unfold boS; dsimp only; rw [if_neg (fun z => h1 z.1), if_neg (fun z => h2 z.1)]
  have w93 : (boS σ n (nI k) (f_X1_shownParts (nI k) (σ.1 8 l 3) p)).1 9 0 3 = nI (n + 1) := by
    unfold boS; dsimp only; rw [if_neg (fun z => absurd z.1 (by decide)), if_pos ⟨rfl, rfl, rfl⟩]
  have w9 (j : Nat) (hj : j ≠ 3) : (boS σ n (nI k) (f_X1_shownParts (nI k) (σ.1 8 l 3) p)).1 9 0 j = σ.1 9 0 j := by
    unfold boS; dsimp only; rw [if_neg (fun z => absurd z.1 (by decide)), if_neg (fun z => hj z.2.2)]
  generalize hsh : f_X1_shownParts (nI k) (σ.1 8 l 3) p = sh at *
  generalize boS σ n (nI k) sh = σ1 at *
  have q (j : Nat) (hj : ¬ (16 ≤ j ∧ j ≤ 19)) : (mp (ma (ma (ma (ma τ 16 n (nI k)) 17 n (nI l)) 18 n (nI m)) 19 n p) 20 (nI (n + 1))).2.2 j = τ.2.2 j := (((ma_j (by omega)).trans (ma_j (by omega))).trans (ma_j (by omega))).trans (ma_j (by omega))
  have q1 (j : Nat) (hj : j ≠ 20) : (mp (ma (ma (ma (ma τ 16 n (nI k)) 17 n (nI l)) 18 n (nI m)) 19 n p) 20 (nI (n + 1))).1 j = τ.1 j := mp_j hj
  have q20 : (mp (ma (ma (ma (ma τ 16 n (nI k)) 17 n (nI l)) 18 n (nI m)) 19 n p) 20 (nI (n + 1))).1 20 = nI (n + 1) := mp_at _ _ _
  have q16 : (mp (ma (ma (ma (ma τ 16 n (nI k)) 17 n (nI l)) 18 n (nI m)) 19 n p) 20 (nI (n + 1))).2.2 16 = upd (τ.2.2 16) n (nI k) := by
    show (ma (ma (ma (ma τ 16 n (nI k)) 17 n (nI l)) 18 n (nI m)) 19 n p).2.2 16 = _
    rw [ma_j (by decide), ma_j (by decide), ma_j (by decide), ma_k]
  have q17 : (mp (ma (ma (ma (ma τ 16 n (nI k)) 17 n (nI l)) 18 n (nI m)) 19 n p) 20 (nI (n + 1))).2.2 17 = upd (τ.2.2 17) n (nI l) := by
    show (ma (ma (ma (ma τ 16 n (nI k)) 17 n (nI l)) 18 n (nI m)) 19 n p).2.2 17 = _
    rw [ma_j (by decide), ma_j (by decide), ma_k, ma_j (by decide)]
  have q18 : (mp (ma (ma (ma (ma τ 16 n (nI k)) 17 n (nI l)) 18 n (nI m)) 19 n p) 20 (nI (n + 1))).2.2 18 = upd (τ.2.2 18) n (nI m) := by
    show (ma (ma (ma (ma τ 16 n (nI k)) 17 n (nI l)) 18 n (nI m)) 19 n p).2.2 18 = _
    rw [ma_j (by decide), ma_k, ma_j (by decide), ma_j (by decide)]
  have q19 : (mp (ma (ma (ma (ma τ 16 n (nI k)) 17 n (nI l)) 18 n (nI m)) 19 n p) 20 (nI (n + 1))).2.2 19 = upd (τ.2.2 19) n p := by
    show (ma (ma (ma (ma τ 16 n (nI k)) 17 n (nI l)) 18 n (nI m)) 19 n p).2.2 19 = _
    rw [ma_k, ma_j (by decide), ma_j (by decide), ma_j (by decide)]
  generalize mp (ma (ma (ma (ma τ 16 n (nI k)) 17 n (nI l)) 18 n (nI m)) 19 n p) 20 (nI (n + 1)) = τ1 at *
  have es1 : τ1.1 26 = nI s := by rw [q1 26 (by decide)]; exact es
  have c26 : (τ.1 26).toNatClampNeg = s := by rw [es, nI_clamp (by omega)]
  have ni : ∀ b, b < n → nI b ≠ nI n := fun b hb z => by
    have := congrArg Int32.toNatClampNeg z
    rw [nI_clamp (by omega), nI_clamp (by omega)] at this
    omega
  have wit : ∀ b, b < n → f_X10_withinOf τ1 (nI b) = f_X10_withinOf τ (nI b) := fun b hb => by
    unfold f_X10_withinOf
    rw [nI_clamp (by omega), q16, q17, q18, upd_ne (show b ≠ n by omega), upd_ne (show b ≠ n by omega), upd_ne (show b ≠ n by omega)]
  have shw : ∀ b, b < n → ∀ x, f_X10_showsOf τ1 (nI b) x = f_X10_showsOf τ (nI b) x := fun b hb x => by
    unfold f_X10_showsOf
    rw [nI_clamp (by omega), q16, q17, q19, q 10 (by decide), upd_ne (show b ≠ n by omega), upd_ne (show b ≠ n by omega), upd_ne (show b ≠ n by omega)]
  have tx : ∀ x, txt τ1 x = txt τ x := fun x => by unfold txt; rw [q 1 (by decide), q 2 (by decide)]
  have ew8 : σ.1 8 l 3 = τ.2.2 10 l := (hR.w.2 l hl).2.2.2.1
  refine ⟨⟨?_, ⟨?_, fun b hb => ?_⟩, ?_, fun b hb => ?_, hR.k.tr (fun c _ _ => by rw [w2]) (fun j _ _ => q j (by omega)), ?_, ?_, hR.t.tr (by rw [wc 4 (by decide) (by decide)]) (by rw [w2]) (q1 6 (by decide)) (q 5 (by decide)), ?_, hR.h.tr (wc 6 (by decide) (by decide)) (by rw [w2]) (fun j _ _ => q j (by omega))⟩, ?_, ?_⟩
  · have := hR.w.tr (σ' := σ1) (τ' := τ1) (wc 8 (by decide) (by decide)) (q1 12 (by decide)) (fun j _ _ => q j (by omega))
    unfold RelW at this ⊢
    rw [s00]; exact this
  · rw [q20, s01]
  · rw [s01] at hb
    by_cases e : b = n
    · subst e
      rw [w0, w3, q16, q17, q18, upd_at, upd_at, upd_at, s1n, s2n]
      refine ⟨rfl, rfl, rfl, fun x hx => ?_⟩
      have := shows_new (τ := τ1) (n := b) (k := k) h24 hk (l := l) (by omega) (by rw [q16, upd_at]) (by rw [q17, upd_at]) hx (by rw [q 10 (by decide)]; exact hM.2.2.2.1 l) (by rw [q19, upd_at]; exact hp)
      rw [q 10 (by decide), q19, upd_at, ← ew8, hsh] at this
      exact this
    · have hB := hR.b.2 b (by omega)
      rw [wi b 0 e, wi b 3 e, q16, q17, q18, upd_ne e, upd_ne e, upd_ne e, s1 b e, s2 b e]
      exact ⟨hB.1, hB.2.1, hB.2.2.1, fun x hx => by rw [shw b (by omega)]; exact hB.2.2.2 x hx⟩
  · have := hR.s
    unfold RelS at this ⊢
    rw [q1 26 (by decide), wc 3 (by decide) (by decide), w2, q 21 (by decide), q 22 (by decide), q 23 (by decide), q 24 (by decide), q 25 (by decide)]
    exact this
  · rw [s01] at hb
    rw [ow_is hs es1, gp_is hs es1, ch_is hs es1, ly_is hs es1, q 21 (by decide), q 22 (by decide), q 23 (by decide), q 25 (by decide), q1 26 (by decide)]
    by_cases e : b = n
    · subst e
      have nn : ∀ i, i < s → ¬ τ.2.2 21 i = nI b := fun i hi => by
        obtain ⟨b', hb', eb'⟩ := hX.sb (i := i) (by rw [e5, nI_clamp (by omega)]; exact hi)
        rw [hR.s.2.1] at eb'
        rw [eb']
        exact ni b' (by omega)
      obtain ⟨a1, a2, a3⟩ := none_N (ss := τ.2.2 22) (sy := τ.2.2 23) s nn
      rw [owN, lyN, a1, a2, a3, w4, w5, w6, w7, w8]
      exact ⟨rfl, rfl, rfl, rfl, Ct.zero _, ⟨fun _ => rfl, fun _ => rfl⟩, 0, Nat.zero_le _, rfl⟩
    · have hD := hR.d b (by omega)
      rw [ow_is hs es, gp_is hs es, ch_is hs es, ly_is hs es] at hD
      rw [wi b 4 e, wi b 5 e, wi b 6 e, wi b 7 e, wi b 8 e]
      exact hD
  · have := hR.i.tr (σ' := σ1) (τ' := τ1) (wc 2 (by decide) (by decide)) (by rw [w2]) (by rw [w2]) (by rw [w2]) (by rw [w2]) (fun j _ _ => q1 j (by omega)) (fun j _ _ => q j (by omega))
    unfold RelI at this ⊢
    rw [s02]; exact this
  · have := hR.r
    unfold RelR at this ⊢
    rw [q1 3 (by decide), q1 4 (by decide), w9 6 (by decide), s02, s5, wc 5 (by decide) (by decide), w2]
    refine ⟨this.1, this.2.1, this.2.2.1, fun i hi => ?_⟩
    rw [tx]
    exact this.2.2.2 i hi
  · intro t ht
    obtain ⟨r0, r1, r2, r3, r4, r5⟩ := hR.g t ht
    obtain ⟨g, hg, eg⟩ := hM.given t
    have eg1 : τ1.2.2 42 t = nI g := by rw [q 42 (by decide)]; exact eg
    obtain ⟨f0, f1, f2, f3⟩ := tg_f ht hg eg
    obtain ⟨g0, g1, g2, g3⟩ := tg_f ht hg eg1
    have same : tgN τ1 t g = tgN τ t g := tgN_cg2 (fun k hk => by
      obtain ⟨b, hb, eb⟩ := r5 k (by rw [eg, nI_clamp (by omega)]; exact hk)
      rw [q 43 (by decide), q 44 (by decide), q 45 (by decide), eb, wit b (by omega), nI_clamp (by omega), q17, upd_ne (show b ≠ n by omega)]
      exact ⟨rfl, rfl, rfl, rfl, rfl⟩) g (Nat.le_refl _)
    rw [same] at g0 g1 g2 g3
    rw [g0, g1, g2, g3, ← f0, ← f1, ← f2, ← f3, q 42 (by decide), q 43 (by decide), wc 7 (by decide) (by decide), s01]
    exact ⟨r0, r1, r2, r3, r4, fun k hk => by obtain ⟨b, hb, eb⟩ := r5 k hk; exact ⟨b, by omega, eb⟩⟩
  · have hh := hX
    unfold XInv at hh ⊢
    rw [s00, s01, s02, s5, w93, w9 1 (by decide), w9 5 (by decide), wc 3 (by decide) (by decide), wc 4 (by decide) (by decide), wc 6 (by decide) (by decide), wc 2 (by decide) (by decide), w2]
    obtain ⟨x1, x2, x3, x4, x5⟩ := hh
    refine ⟨⟨x1.1, ⟨rfl, by omega⟩, x1.2.2⟩, fun i hi => ?_, x3, fun i hi => ?_, x5⟩
    · by_cases e : i = n
      · rw [e, s1n, s2n]; exact ⟨hl, hm⟩
      · rw [s1 i e, s2 i e]; exact x2 i (by omega)
    · obtain ⟨b, hb, eb⟩ := x4 i hi
      exact ⟨b, by omega, eb⟩
  · have hh := hM
    unfold MInv at hh ⊢
    rw [q20, q1 12 (by decide), q1 26 (by decide), q1 3 (by decide), q1 6 (by decide), q1 4 (by decide), q1 53 (by decide), q1 54 (by decide), q1 55 (by decide), q16, q17, q18, q19, q 10 (by decide), q 21 (by decide), q 42 (by decide), q 43 (by decide), q 56 (by decide), q 58 (by decide), q 2 (by decide), q 1 (by decide), q 5 (by decide)]
    obtain ⟨m0, m1, m2, m3, m4, m5, m6, m7⟩ := hh
    refine ⟨⟨m0.1, ⟨n + 1, by omega, rfl⟩, m0.2.2⟩, fun i => ?_, fun i => ?_, m3, fun i => ?_, m5, fun i => ?_, m7⟩
    · by_cases e : i = n
      · rw [e, upd_at]; exact vp_in_nI (by omega) (by decide)
      · rw [upd_ne e]; exact m1 i
    · by_cases e : i = n
      · rw [e, upd_at]; exact vp_in_nI (by omega) (by decide)
      · rw [upd_ne e]; exact m2 i
    · by_cases e : i = n
      · rw [e, upd_at]; exact hp
      · rw [upd_ne e]; exact m4 i
    · by_cases e : i = n
      · rw [e, upd_at]; exact vp_in_nI (by omega) (by decide)
      · rw [upd_ne e]; exact m6 i
theorem bottle_or (h : Al S σ τ) (a b c : Int32) : (boBad S σ a b c ∧ f_X10_bottle τ a b c = (-2, τ)) ∨ (¬ boBad S σ a b c ∧ 24 ≤ S 0 1 ∧ f_X10_bottle τ a b c = (-4, τ)) ∨ (¬ boBad S σ a b c ∧ S 0 1 < 24 ∧ (f_X10_bottle τ a b c).1 = nI (S 0 1) ∧ Al (boU S (S 0 1) (b / 10).toNatClampNeg (b - b / 10 * 10).toNatClampNeg) (boS σ (S 0 1) a (f_X1_shownParts a (σ.1 8 (b / 10).toNatClampNeg 3) c)) (f_X10_bottle τ a b c).2) := by
  have h0 := h
  obtain ⟨hR, hX, hM⟩ := h
  have h24 := hX.nb.2
  have h8 := hX.nw.2
  have eb := hR.b.1
  unfold f_X10_bottle boBad
  rw [in_up a 5 5 rfl, ← eq_areParts c]
  by_cases c1 : f_X9_isUpTo a 5 = 0
  · rw [if_pos c1]; exact Or.inl ⟨Or.inl c1, rfl⟩
  · rw [if_neg c1]
    by_cases c2 : b < 0
    · rw [if_pos c2]; exact Or.inl ⟨Or.inr (Or.inl c2), rfl⟩
    · rw [if_neg c2]
      rcases eq_wine hR hX (b / 10) with ⟨x1, x2⟩ | ⟨x1, x2, l, hl, el⟩
      · rw [if_pos x2]; exact Or.inl ⟨Or.inr (Or.inr (Or.inl x1)), rfl⟩
      · rw [x2, if_neg n10]
        rcases eq_wine hR hX (b - b / 10 * 10) with ⟨y1, y2⟩ | ⟨y1, y2, m, hm, em⟩
        · rw [if_pos y2]; exact Or.inl ⟨Or.inr (Or.inr (Or.inr (Or.inl y1))), rfl⟩
        · rw [y2, if_neg n10]
          by_cases c3 : f_X9_areParts c = 0
          · rw [if_pos c3]; exact Or.inl ⟨Or.inr (Or.inr (Or.inr (Or.inr c3))), rfl⟩
          · rw [if_neg c3]
            have nb : ¬ (f_X9_isUpTo a 5 = 0 ∨ b < 0 ∨ f_X9_wineAt S σ (b / 10) = 0 ∨ f_X9_wineAt S σ (b - b / 10 * 10) = 0 ∨ f_X9_areParts c = 0) := fun z => by
              rcases z with z | z | z | z | z
              · exact c1 z
              · exact c2 z
              · rw [x1] at z; exact n10 z
              · rw [y1] at z; exact n10 z
              · exact c3 z
            by_cases c5 : S 0 1 = 24
            · have e8 : τ.1 20 = 24 := by rw [eb, c5]; rfl
              rw [if_pos e8]
              exact Or.inr (Or.inl ⟨nb, by omega, rfl⟩)
            · have n8 : ¬ τ.1 20 = 24 := fun z => c5 (by
                have := congrArg Int32.toNatClampNeg (eb.symm.trans z)
                rw [nI_clamp (by omega)] at this
                exact this)
              rw [if_neg n8]
              have ar : f_X10_areParts c = 1 := by
                rw [← eq_areParts c]
                rcases ap_01 c with z | z
                · exact absurd z c3
                · exact z
              obtain ⟨k, hk, rfl⟩ := up_n (N := 5) rfl (by decide) c1
              refine Or.inr (Or.inr ⟨nb, by omega, ?_, ?_⟩)
              · show upd τ.1 20 (τ.1 20 + 1) 20 - 1 = nI (S 0 1)
                rw [upd_at, eb, nI_1, nI_pred]
              · have r := bottle_rel h0 (n := S 0 1) rfl (by omega) (k := k) (l := l) (m := m) (p := c) (by omega) hl hm ar
                have r2 : Al (boU S (S 0 1) (b / 10).toNatClampNeg (b - b / 10 * 10).toNatClampNeg) (boS σ (S 0 1) (nI k) (f_X1_shownParts (nI k) (σ.1 8 (b / 10).toNatClampNeg 3) c)) (mp (ma (ma (ma (ma τ 16 (τ.1 20).toNatClampNeg (nI k)) 17 (τ.1 20).toNatClampNeg (b / 10)) 18 (τ.1 20).toNatClampNeg (b - b / 10 * 10)) 19 (τ.1 20).toNatClampNeg c) 20 (τ.1 20 + 1)) := by
                  rw [eb, nI_clamp (show S 0 1 < 2 ^ 31 by omega), nI_1, em, el, nI_clamp (show l < 2 ^ 31 by omega), nI_clamp (show m < 2 ^ 31 by omega)]
                  exact r
                exact r2
end BO
