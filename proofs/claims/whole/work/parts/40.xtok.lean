/-! the class's tokens are the token function's -/
def XT (σ : XSt) (t : TB) : Prop := σ.1 4 0 2 = nI t.2 ∧ t.2 ≤ 160 ∧ (∀ i, i < t.2 → t.1 i = σ.2 28 0 i &&& 255) ∧ ∀ i, i < t.2 → vp_nar .byte (σ.2 28 0 i) = σ.2 28 0 i
set_option maxRecDepth 100000 in
theorem b_tab : ∀ z, z < 256 → ((nI z - 128) &&& 255 < 128 → (nI z - 128) &&& 255 = nI z - 128) := by decide +kernel
theorem b_lo {x : Int32} (h : vp_nar .byte x = x) (h2 : x &&& 255 < 128) : x &&& 255 = x := by
  rw [vp_nar_byte] at h
  have e : x.toInt = x.toInt8.toInt := by
    have := congrArg Int32.toInt h
    rw [Int8.toInt_toInt32] at this
    exact this.symm
  have l1 := Int8.le_toInt x.toInt8
  have l2 := Int8.toInt_lt x.toInt8
  have hz : (x.toInt + 128).toNat < 256 := by omega
  have ex : x = nI (x.toInt + 128).toNat - 128 := by
    refine Int32.toInt_inj.mp ?_
    rw [show (128 : Int32) = nI 128 from rfl, pk_sub_toInt (by omega) (by decide)]
    omega
  have k := b_tab _ hz
  rw [← ex] at k
  exact k h2
theorem XT.nb {σ : XSt} {t : TB} (h : XT σ t) {i : Nat} (hi : i < t.2) : ∃ j : Nat, j < 256 ∧ t.1 i = nI j := by
  rw [h.2.2.1 i hi]
  exact pk_andE _ (m := 255) 8 (by decide)
theorem XT.lo {σ : XSt} {t : TB} (h : XT σ t) {i : Nat} (hi : i < t.2) (h2 : t.1 i < 128) : t.1 i = σ.2 28 0 i := by
  rw [h.2.2.1 i hi] at h2 ⊢
  exact b_lo (h.2.2.2 i hi) h2
set_option maxRecDepth 100000 in
theorem so_tab : ∀ j, j < 256 → (isBl (nI j) = true ↔ f_X4_sortOf (nI j) = 32) ∧ (isLe (nI j) = true ↔ f_X4_sortOf (nI j) = 97) ∧ (isDi (nI j) = true ↔ f_X4_sortOf (nI j) = 48) ∧ (isSg (nI j) = true ↔ ¬ ixL (Int8.toInt32 (Int32.toInt8 (((Int32.toUInt32 (nI j)) % 65536).toInt32))) 8 0 < 0) := by decide +kernel
theorem eo_run {S : XSh} {σ : XSt} {t : TB} (hT : XT σ t) {s : Int32} {P : Int32 → Bool} (hP : ∀ j, j < 256 → (P (nI j) = true ↔ f_X4_sortOf (nI j) = s)) (l2 : Int32) : ∀ n k, k ≤ t.2 → t.2 - k < n → f_X4_endOf_L2 n S σ s l2 (nI k) = nI (runN t P n k) := by
  intro n
  induction n with
  | zero => intro k _ h; exact absurd h (Nat.not_lt_zero _)
  | succ n ih =>
    intro k hk hn
    have h160 := hT.2.1
    unfold f_X4_endOf_L2 runN
    rw [hT.1]
    by_cases z : k < t.2
    · obtain ⟨j, hj, e⟩ := hT.nb z
      rw [if_neg (fun q => by have := (nI_leI (by omega) (by omega)).mp q; omega), if_neg (fun q => by have := (nI_leI (a := 160) (by omega) (by omega)).mp q; omega), nI_clamp (by omega), ← hT.2.2.1 k z, e]
      by_cases q : P (nI j) = true
      · rw [if_pos ((hP j hj).mp q), if_pos ⟨z, q⟩, nI_1]
        exact ih (k + 1) z (by omega)
      · rw [if_neg (fun y => q ((hP j hj).mpr y)), if_neg (fun y => q y.2)]
    · rw [if_pos (nI_le (by omega) (by omega)), if_neg (fun y => z y.1)]
theorem runN_all (t : TB) (P : Int32 → Bool) : ∀ n k i, k ≤ i → i < runN t P n k → P (t.1 i) = true
  | 0, k, i, h1, h2 => absurd h2 (Nat.not_lt.mpr h1)
  | n + 1, k, i, h1, h2 => by
    unfold runN at h2
    by_cases q : k < t.2 ∧ P (t.1 k) = true
    · rw [if_pos q] at h2
      rcases Nat.eq_or_lt_of_le h1 with e | e
      · rw [← e]; exact q.2
      · exact runN_all t P n (k + 1) i e h2
    · rw [if_neg q] at h2
      exact absurd h2 (Nat.not_lt.mpr h1)
theorem x_ext {f f' : Nat → Nat → Nat → Int32} {A A' : Nat → Nat → Nat → Int32} (h : ∀ c i k, f c i k = f' c i k) (hA : A = A') : ((f, A) : XSt) = (f', A') := by
  rw [show f = f' from funext fun c => funext fun i => funext fun k => h c i k, hA]
theorem xp_xp (σ : XSt) (c i k : Nat) (a b : Int32) : xp (xp σ c i k a) c i k b = xp σ c i k b := by
  refine x_ext (fun c' i' k' => ?_) rfl
  simp only [up3]
  split
  · rfl
  · next q => rw [show (xp σ c i k a).1 c' i' k' = σ.1 c' i' k' from xp_o q]
theorem xp_self {σ : XSt} {c i k : Nat} {a : Int32} (h : σ.1 c i k = a) : xp σ c i k a = σ := by
  obtain ⟨f, A⟩ := σ
  refine x_ext (fun c' i' k' => ?_) rfl
  simp only [up3]
  split
  · next q => rw [q.1, q.2.1, q.2.2]; exact h.symm
  · rfl
/-- a number's digits -/
def numN (b : Nat → Int32) (a : Nat) : Nat → Int32
  | 0 => 0
  | m + 1 => numN b a m * 10 + (b (a + m) - 48)
theorem num_nv (b : Nat → Int32) (a : Nat) : ∀ m, m ≤ 4 → (nv b a m).toInt32 = numN b a m
  | 0, _ => rfl
  | m + 1, h => by
    have ih := num_nv b a m (by omega)
    rw [nv, if_pos (by omega), numN, ← ih, Int64.toInt32_sub, Int64.toInt32_add, Int64.toInt32_mul, Int32.toInt32_toInt64]
    rw [show (10 : Int64).toInt32 = 10 from rfl, show (48 : Int64).toInt32 = 48 from rfl, Int32.mul_comm, Int32.sub_eq_add_neg, Int32.sub_eq_add_neg, Int32.add_assoc]
theorem XT.xp {σ : XSt} {t : TB} (h : XT σ t) {k : Nat} (hk : k ≠ 2) (v : Int32) : XT (xp σ 4 0 k v) t := by
  obtain ⟨a, b⟩ := h
  refine ⟨?_, b⟩
  rw [xp_o (by omega)]
  exact a
theorem di_lo {c : Int32} (h : isDi c = true) : c < 128 := by
  have := (di_iff c).mp h
  exact Int32.lt_of_le_of_lt this.2 (by decide)
theorem le_lo {c : Int32} (h : isLe c = true) : c < 128 := by
  have := (le_iff c).mp h
  exact Int32.lt_of_le_of_lt this.2 (by decide)
theorem nt_run {S : XSh} {t : TB} {a e : Nat} (he : e ≤ t.2) (hd : ∀ i, a ≤ i → i < e → isDi (t.1 i) = true) (hae : a ≤ e) : ∀ n m σ, XT σ t → σ.1 4 0 4 = nI e → σ.1 4 0 6 = nI a → σ.1 4 0 7 = numN t.1 a m → a + m ≤ e → e - (a + m) < n → f_X4_numberToken_L10 n S σ (nI (a + m)) = (if 4 < e - a then 14 else 12, xp σ 4 0 7 (numN t.1 a (e - a))) := by
  intro n
  induction n with
  | zero => intro m σ _ _ _ _ _ h; exact absurd h (Nat.not_lt_zero _)
  | succ n ih =>
    intro m σ hT h4 h6 h7 hm hn
    have h160 := hT.2.1
    unfold f_X4_numberToken_L10
    rw [h4, h6, h7]
    by_cases q : a + m < e
    · have hb := hT.lo (show a + m < t.2 by omega) (di_lo (hd _ (by omega) q))
      rw [if_neg (fun z => by have := (nI_leI (by omega) (by omega)).mp z; omega), nI_clamp (by omega), ← hb, nI_1]
      refine (ih (m + 1) _ (hT.xp (by decide) _) ?_ ?_ ?_ (by omega) (by omega)).trans ?_
      · rw [xp_o (by decide)]; exact h4
      · rw [xp_o (by decide)]; exact h6
      · rw [xp_s]; rfl
      · rw [xp_xp]
    · have em : e - a = m := by omega
      rw [if_pos (nI_le (by omega) (by omega)), pk_sub hae, em]
      rw [xp_self h7]
      by_cases z : 4 < m
      · rw [if_pos (show (4 : Int32) < nI m from nI_lt (a := 4) z (by omega)), if_pos z]
      · rw [if_neg (show ¬ (4 : Int32) < nI m from fun y => by have := (nI_ltI (a := 4) (by omega) (by omega)).mp y; omega), if_neg z]
/-- the words -/
def WB : List Int32 := (xTx 1).2.2.2
def wl (b : Nat → Int32) (pl ta : Nat) : List Int32 → Nat → Nat → Bool → Int32
  | [], _, _, _ => 14
  | c :: cs, w, a, s => if c = 32 then (if s = true ∧ a = pl then nI w else wl b pl ta cs (w + 1) ta true) else wl b pl ta cs w (a + 1) (s && decide (a < pl) && decide (b a = c))
theorem wt_run {S : XSh} {σ : XSt} {pl ta : Nat} (h4 : σ.1 4 0 4 = nI pl) (h6 : σ.1 4 0 6 = nI ta) (hp : pl ≤ 160) (ht : ta ≤ 160) : ∀ n i w a s, i ≤ 56 → 56 - i < n → w ≤ i → a ≤ 160 + i → f_X4_wordToken_L12 n S σ (nI w) (nI a) (if s = true then 1 else 0) (nI i) = wl (σ.2 28 0) pl ta (WB.drop i) w a s := by
  intro n
  induction n with
  | zero => intro i w a s _ h; exact absurd h (Nat.not_lt_zero _)
  | succ n ih =>
    intro i w a s hi hn hw ha
    unfold f_X4_wordToken_L12
    by_cases q : i < 56
    · have hl : i < WB.length := q
      rw [List.drop_eq_getElem_cons hl, wl]
      have hs : sB 1 (nI i).toNatClampNeg = WB[i] := by
        rw [nI_clamp (by omega)]
        show WB.getD i 0 = _
        rw [List.getD_eq_getElem?_getD, List.getElem?_eq_getElem hl]
        rfl
      rw [if_neg (show ¬ nI (sN 1) ≤ nI i from fun z => by have := (nI_leI (a := 56) (by omega) (by omega)).mp z; omega), hs, h4, h6, nI_1, nI_1, nI_1, nI_clamp (by omega)]
      have i1t : ∀ a, a ≤ 160 + (i + 1) → f_X4_wordToken_L12 n S σ (nI w) (nI a) 1 (nI (i + 1)) = wl (σ.2 28 0) pl ta (WB.drop (i + 1)) w a true := fun a ha => ih (i + 1) w a true (by omega) (by omega) (by omega) ha
      have i1f : ∀ a, a ≤ 160 + (i + 1) → f_X4_wordToken_L12 n S σ (nI w) (nI a) 0 (nI (i + 1)) = wl (σ.2 28 0) pl ta (WB.drop (i + 1)) w a false := fun a ha => ih (i + 1) w a false (by omega) (by omega) (by omega) ha
      have i2t : f_X4_wordToken_L12 n S σ (nI (w + 1)) (nI ta) 1 (nI (i + 1)) = wl (σ.2 28 0) pl ta (WB.drop (i + 1)) (w + 1) ta true := ih (i + 1) (w + 1) ta true (by omega) (by omega) (by omega) (by omega)
      by_cases c32 : WB[i] = 32
      · rw [if_pos c32, if_pos c32]
        cases s with
        | false => rw [if_pos (show (if false = true then (1 : Int32) else 0) = 0 from rfl), if_neg (fun z => by cases z.1)]; exact i2t
        | true =>
          rw [if_neg (by decide)]
          by_cases ha2 : a = pl
          · rw [if_pos (by rw [ha2]), if_pos ⟨rfl, ha2⟩]
          · rw [if_neg (fun z => ha2 ((nI_eq (by omega) (by omega)).mp z)), if_neg (fun z => ha2 z.2)]; exact i2t
      · rw [if_neg c32, if_neg c32]
        cases s with
        | false => rw [if_pos (show (if false = true then (1 : Int32) else 0) = 0 from rfl)]; exact i1f _ (by omega)
        | true =>
          rw [if_neg (by decide)]
          by_cases ha2 : a < pl
          · rw [if_neg (fun z => by have := (nI_leI (by omega) (by omega)).mp z; omega)]
            by_cases hb : σ.2 28 0 a = WB[i]
            · rw [if_pos hb, decide_eq_true ha2, decide_eq_true hb]; exact i1t _ (by omega)
            · rw [if_neg hb, decide_eq_false hb, Bool.and_false]; exact i1f _ (by omega)
          · rw [if_pos (nI_le (by omega) (by omega)), decide_eq_false ha2]; exact i1f _ (by omega)
    · have e : i = 56 := by omega
      subst e
      rw [if_pos (show nI (sN 1) ≤ nI 56 from by decide)]
      rfl
def mtL (b : Nat → Int32) (pl : Nat) : List Int32 → Nat → Prop
  | [], a => a = pl
  | c :: cs, a => a < pl ∧ b a = c ∧ mtL b pl cs (a + 1)
theorem wl_f (b : Nat → Int32) (pl ta : Nat) (rest : List Int32) (w : Nat) : ∀ (cs : List Int32) (a : Nat), (∀ c ∈ cs, c ≠ 32) → wl b pl ta (cs ++ 32 :: rest) w a false = wl b pl ta rest (w + 1) ta true
  | [], a, _ => by
    show wl b pl ta (32 :: rest) w a false = _
    rw [wl, if_pos rfl, if_neg (fun z => by cases z.1)]
  | c :: cs, a, h => by
    show wl b pl ta (c :: (cs ++ 32 :: rest)) w a false = _
    rw [wl, if_neg (h c List.mem_cons_self)]
    exact wl_f b pl ta rest w cs (a + 1) (fun c hc => h c (List.mem_cons_of_mem _ hc))
theorem wl_w (b : Nat → Int32) (pl ta : Nat) (rest : List Int32) (w : Nat) : ∀ (cs : List Int32) (a : Nat), (∀ c ∈ cs, c ≠ 32) → (mtL b pl cs a → wl b pl ta (cs ++ 32 :: rest) w a true = nI w) ∧ (¬ mtL b pl cs a → wl b pl ta (cs ++ 32 :: rest) w a true = wl b pl ta rest (w + 1) ta true)
  | [], a, _ => by
    refine ⟨fun h => ?_, fun h => ?_⟩
    · show wl b pl ta (32 :: rest) w a true = _
      rw [wl, if_pos rfl, if_pos ⟨rfl, h⟩]
    · show wl b pl ta (32 :: rest) w a true = _
      rw [wl, if_pos rfl, if_neg (fun z => h z.2)]
  | c :: cs, a, h => by
    have hc := h c List.mem_cons_self
    have hs : ∀ c ∈ cs, c ≠ 32 := fun c hc => h c (List.mem_cons_of_mem _ hc)
    obtain ⟨i1, i2⟩ := wl_w b pl ta rest w cs (a + 1) hs
    refine ⟨fun hm => ?_, fun hm => ?_⟩
    · obtain ⟨h1, h2, h3⟩ := hm
      show wl b pl ta (c :: (cs ++ 32 :: rest)) w a true = _
      rw [wl, if_neg hc, decide_eq_true h1, decide_eq_true h2]
      exact i1 h3
    · show wl b pl ta (c :: (cs ++ 32 :: rest)) w a true = _
      rw [wl, if_neg hc]
      by_cases h1 : a < pl
      · by_cases h2 : b a = c
        · rw [decide_eq_true h1, decide_eq_true h2]
          exact i2 (fun z => hm ⟨h1, h2, z⟩)
        · rw [decide_eq_false h2, Bool.and_false]
          exact wl_f b pl ta rest w cs _ hs
      · rw [decide_eq_false h1]
        exact wl_f b pl ta rest w cs _ hs
theorem wl_i (b : Nat → Int32) (pl ta w : Nat) (cs rest : List Int32) (h : ∀ c ∈ cs, c ≠ 32) {p : Prop} [Decidable p] (hp : mtL b pl cs ta ↔ p) {r : Int32} (hr : wl b pl ta rest (w + 1) ta true = r) : wl b pl ta (cs ++ 32 :: rest) w ta true = if p then nI w else r := by
  obtain ⟨i1, i2⟩ := wl_w b pl ta rest w cs ta h
  by_cases q : p
  · rw [if_pos q]; exact i1 (hp.mpr q)
  · rw [if_neg q, ← hr]; exact i2 (fun z => q (hp.mp z))
/-- a word's number, its letters 1 .. 26 -/
def HN (d : Nat → Nat) : Nat → Nat
  | 0 => 0
  | m + 1 => 27 * HN d m + d m
theorem HN_inj (d d' : Nat → Nat) : ∀ m m', (∀ i, i < m → 1 ≤ d i ∧ d i ≤ 26) → (∀ i, i < m' → 1 ≤ d' i ∧ d' i ≤ 26) → HN d m = HN d' m' → m = m' ∧ ∀ i, i < m → d i = d' i
  | 0, 0, _, _, _ => ⟨rfl, fun i h => absurd h (Nat.not_lt_zero i)⟩
  | 0, k + 1, _, h', e => by
    have := h' k (Nat.lt_succ_self k)
    have e' : 0 = 27 * HN d' k + d' k := e
    omega
  | m + 1, 0, h, _, e => by
    have := h m (Nat.lt_succ_self m)
    have e' : 27 * HN d m + d m = 0 := e
    omega
  | m + 1, k + 1, h, h', e => by
    have a1 := h m (Nat.lt_succ_self m)
    have a2 := h' k (Nat.lt_succ_self k)
    have e' : 27 * HN d m + d m = 27 * HN d' k + d' k := e
    have e1 : HN d m = HN d' k := by omega
    obtain ⟨q1, q2⟩ := HN_inj d d' m k (fun i hi => h i (Nat.lt_succ_of_lt hi)) (fun i hi => h' i (Nat.lt_succ_of_lt hi)) e1
    subst q1
    refine ⟨rfl, fun i hi => ?_⟩
    rcases Nat.lt_or_ge i m with z | z
    · exact q2 i z
    · have : i = m := by omega
      subst this
      omega
theorem HN_lt (d : Nat → Nat) : ∀ m, (∀ i, i < m → d i ≤ 26) → HN d m < 27 ^ m
  | 0, _ => Nat.one_pos
  | m + 1, h => by
    have := HN_lt d m (fun i hi => h i (Nat.lt_succ_of_lt hi))
    have := h m (Nat.lt_succ_self m)
    show 27 * HN d m + d m < 27 ^ (m + 1)
    rw [Nat.pow_succ]
    omega
theorem wh_HN (b : Nat → Int32) (a : Nat) (d : Nat → Nat) : ∀ m, m ≤ 8 → (∀ i, i < m → b (a + i) = nI (d i + 96)) → (∀ i, i < m → d i ≤ 26) → wh b a m = lN (HN d m)
  | 0, _, _, _ => rfl
  | m + 1, h, hb, hd => by
    have ih := wh_HN b a d m (by omega) (fun i hi => hb i (Nat.lt_succ_of_lt hi)) (fun i hi => hd i (Nat.lt_succ_of_lt hi))
    have := hd m (Nat.lt_succ_self m)
    rw [wh, if_pos (by omega), ih, hb m (Nat.lt_succ_self m), nI_l (by omega), show (27 : Int64) = lN 27 from rfl, show (96 : Int64) = lN 96 from rfl, lN_mul, lN_add, lN_sub (by omega)]
    show lN (27 * HN d m + (d m + 96) - 96) = lN (27 * HN d m + d m)
    rw [show 27 * HN d m + (d m + 96) - 96 = 27 * HN d m + d m by omega]
theorem wh_big (b : Nat → Int32) (a : Nat) : ∀ m, 8 < m → wh b a m = -1
  | 0, h => absurd h (by decide)
  | m + 1, h => by rw [wh, if_neg (by omega)]
theorem lN_inj {a b : Nat} (ha : a < 2 ^ 63) (hb : b < 2 ^ 63) (h : lN a = lN b) : a = b := by
  have := congrArg Int64.toInt h
  rw [pk_lT ha, pk_lT hb] at this
  omega
theorem mtL_iff (b : Nat → Int32) (pl : Nat) : ∀ (cs : List Int32) (a : Nat), mtL b pl cs a ↔ (a + cs.length = pl ∧ ∀ i, i < cs.length → b (a + i) = cs.getD i 0)
  | [], a => ⟨fun h => ⟨h, fun i hi => absurd hi (Nat.not_lt_zero i)⟩, fun h => h.1⟩
  | c :: cs, a => by
    rw [mtL, mtL_iff b pl cs (a + 1)]
    constructor
    · rintro ⟨h1, h2, h3, h4⟩
      refine ⟨by rw [List.length_cons]; omega, fun i hi => ?_⟩
      cases i with
      | zero => exact h2
      | succ i => rw [show a + (i + 1) = a + 1 + i by omega]; exact h4 i (by rw [List.length_cons] at hi; omega)
    · rintro ⟨h1, h2⟩
      rw [List.length_cons] at h1
      refine ⟨by omega, h2 0 (by rw [List.length_cons]; omega), by omega, fun i hi => ?_⟩
      rw [show a + 1 + i = a + (i + 1) by omega]
      exact h2 (i + 1) (by rw [List.length_cons]; omega)
/-- a word stands there just when its number does -/
theorem mt_wh {b : Nat → Int32} {ta n : Nat} (hn : 0 < n) (hl : ∀ i, i < n → isLe (b (ta + i)) = true) (ds : List Nat) (h1 : ds.length ≤ 8) (h2 : ∀ x ∈ ds, 1 ≤ x ∧ x ≤ 26) {w : Int64} (hw : w = lN (HN (fun i => ds.getD i 0) ds.length)) (hw1 : w ≠ -1) : mtL b (ta + n) (ds.map fun x => nI (x + 96)) ta ↔ wh b ta n = w := by
  have hd : ∀ i, i < ds.length → 1 ≤ ds.getD i 0 ∧ ds.getD i 0 ≤ 26 := fun i hi => by
    rw [List.getD_eq_getElem?_getD, List.getElem?_eq_getElem hi]
    exact h2 _ (List.getElem_mem hi)
  have hd26 : ∀ m, m ≤ 8 → 27 ^ m ≤ 27 ^ 8 := fun m hm => Nat.pow_le_pow_right (by decide) hm
  have hg : ∀ i, i < ds.length → (ds.map fun x => nI (x + 96)).getD i 0 = nI (ds.getD i 0 + 96) := fun i hi => by
    rw [List.getD_eq_getElem?_getD, List.getElem?_map, List.getD_eq_getElem?_getD, List.getElem?_eq_getElem hi]
    rfl
  rw [mtL_iff, List.length_map]
  constructor
  · rintro ⟨e1, e2⟩
    have en : n = ds.length := by omega
    subst en
    rw [wh_HN b ta (fun i => ds.getD i 0) ds.length h1 (fun i hi => (e2 i hi).trans (hg i hi)) (fun i hi => (hd i hi).2), hw]
  · intro e
    rcases Nat.lt_or_ge 8 n with q | q
    · rw [wh_big b ta n q] at e
      exact absurd e.symm hw1
    · have hb : ∀ i, ∃ x, i < n → b (ta + i) = nI (x + 96) ∧ 1 ≤ x ∧ x ≤ 26 := by
        intro i
        by_cases hi : i < n
        · have h3 := (le_iff _).mp (hl i hi)
          obtain ⟨j, hj, ej⟩ := nI_of_rg (N := 122) (by decide) (Int32.le_trans (by decide) h3.1) h3.2
          have h97 : 97 ≤ j := by
            have := h3.1
            rw [ej] at this
            exact (nI_leI (a := 97) (by decide) (by omega)).mp this
          exact ⟨j - 96, fun _ => ⟨by rw [ej, show j - 96 + 96 = j by omega], by omega, by omega⟩⟩
        · exact ⟨0, fun z => absurd z hi⟩
      obtain ⟨d, hdd⟩ := Classical.axiomOfChoice hb
      rw [wh_HN b ta d n q (fun i hi => (hdd i hi).1) (fun i hi => (hdd i hi).2.2), hw] at e
      have l1 := HN_lt d n (fun i hi => (hdd i hi).2.2)
      have l2 := HN_lt (fun i => ds.getD i 0) ds.length (fun i hi => (hd i hi).2)
      have := hd26 n q
      have := hd26 _ h1
      have e27 : (27 : Nat) ^ 8 < 2 ^ 63 := by decide
      obtain ⟨q1, q2⟩ := HN_inj d _ n ds.length (fun i hi => (hdd i hi).2) hd (lN_inj (by omega) (by omega) e)
      subst q1
      exact ⟨rfl, fun i hi => by rw [(hdd i hi).1, q2 i hi, hg i hi]⟩
def wtok (w : Int64) : Int32 := if w = 40600 then 0 else if w = 11047 then 1 else if w = 5146 then 2 else if w = 495765 then 3 else if w = 256721 then 4 else if w = 385240 then 5 else if w = 2436392 then 6 else if w = 8863997 then 7 else if w = 307058 then 8 else if w = 423 then 9 else if w = 1111 then 10 else if w = 10631 then 11 else 14
theorem wt_eq {S : XSh} {σ : XSt} {ta n : Nat} (h4 : σ.1 4 0 4 = nI (ta + n)) (h6 : σ.1 4 0 6 = nI ta) (hp : ta + n ≤ 160) (hn : 0 < n) (hl : ∀ i, i < n → isLe (σ.2 28 0 (ta + i)) = true) : f_X4_wordToken S σ = wtok (wh (σ.2 28 0) ta n) := by
  unfold f_X4_wordToken
  have e := wt_run (S := S) h4 h6 hp (by omega) 58 0 0 ta true (by omega) (by omega) (by omega) (by omega)
  rw [h6]
  refine e.trans ?_
  unfold wtok
  refine wl_i (σ.2 28 0) (ta + n) ta 0 (List.map (fun x => nI (x + 96)) [2, 1, 18, 19]) _ (by decide) (mt_wh hn hl [2, 1, 18, 19] (by decide) (by decide) (w := 40600) (by decide) (by decide)) ?_
  refine wl_i (σ.2 28 0) (ta + n) ta 1 (List.map (fun x => nI (x + 96)) [15, 4, 4]) _ (by decide) (mt_wh hn hl [15, 4, 4] (by decide) (by decide) (w := 11047) (by decide) (by decide)) ?_
  refine wl_i (σ.2 28 0) (ta + n) ta 2 (List.map (fun x => nI (x + 96)) [7, 1, 16]) _ (by decide) (mt_wh hn hl [7, 1, 16] (by decide) (by decide) (w := 5146) (by decide) (by decide)) ?_
  refine wl_i (σ.2 28 0) (ta + n) ta 3 (List.map (fun x => nI (x + 96)) [25, 5, 1, 18]) _ (by decide) (mt_wh hn hl [25, 5, 1, 18] (by decide) (by decide) (w := 495765) (by decide) (by decide)) ?_
  refine wl_i (σ.2 28 0) (ta + n) ta 4 (List.map (fun x => nI (x + 96)) [13, 1, 4, 5]) _ (by decide) (mt_wh hn hl [13, 1, 4, 5] (by decide) (by decide) (w := 256721) (by decide) (by decide)) ?_
  refine wl_i (σ.2 28 0) (ta + n) ta 5 (List.map (fun x => nI (x + 96)) [19, 15, 12, 4]) _ (by decide) (mt_wh hn hl [19, 15, 12, 4] (by decide) (by decide) (w := 385240) (by decide) (by decide)) ?_
  refine wl_i (σ.2 28 0) (ta + n) ta 6 (List.map (fun x => nI (x + 96)) [4, 15, 21, 2, 20]) _ (by decide) (mt_wh hn hl [4, 15, 21, 2, 20] (by decide) (by decide) (w := 2436392) (by decide) (by decide)) ?_
  refine wl_i (σ.2 28 0) (ta + n) ta 7 (List.map (fun x => nI (x + 96)) [16, 18, 9, 3, 5]) _ (by decide) (mt_wh hn hl [16, 18, 9, 3, 5] (by decide) (by decide) (w := 8863997) (by decide) (by decide)) ?_
  refine wl_i (σ.2 28 0) (ta + n) ta 8 (List.map (fun x => nI (x + 96)) [15, 16, 5, 14]) _ (by decide) (mt_wh hn hl [15, 16, 5, 14] (by decide) (by decide) (w := 307058) (by decide) (by decide)) ?_
  refine wl_i (σ.2 28 0) (ta + n) ta 9 (List.map (fun x => nI (x + 96)) [15, 18]) _ (by decide) (mt_wh hn hl [15, 18] (by decide) (by decide) (w := 423) (by decide) (by decide)) ?_
  refine wl_i (σ.2 28 0) (ta + n) ta 10 (List.map (fun x => nI (x + 96)) [1, 14, 4]) _ (by decide) (mt_wh hn hl [1, 14, 4] (by decide) (by decide) (w := 1111) (by decide) (by decide)) ?_
  refine wl_i (σ.2 28 0) (ta + n) ta 11 (List.map (fun x => nI (x + 96)) [14, 15, 20]) _ (by decide) (mt_wh hn hl [14, 15, 20] (by decide) (by decide) (w := 10631) (by decide) (by decide)) ?_
  rfl
