/-- the class's token of a token -/
def ctok (T : Tk) : Int32 := if T.1 = 0 then 13 else if T.1 = 1 then wtok T.2.2.1 else if T.1 = 2 then 12 else if T.1 = 3 then T.2.2.1.toInt32 else 14
/-- the state behind next() -/
def xnS (σ : XSt) (tok at' pl nb : Int32) : XSt := (fun c i k => if c = 4 ∧ i = 0 ∧ k = 4 then pl else if c = 4 ∧ i = 0 ∧ k = 5 then tok else if c = 4 ∧ i = 0 ∧ k = 6 then at' else if c = 4 ∧ i = 0 ∧ k = 7 then nb else σ.1 c i k, σ.2)
theorem xn_A (σ : XSt) (a e : Int32) : xp (xp (xp σ 4 0 4 a) 4 0 6 a) 4 0 5 e = xnS σ e a a (σ.1 4 0 7) := by
  refine x_ext (fun c i k => ?_) rfl
  simp only [up3, xp]
  by_cases h4 : c = 4 ∧ i = 0
  · obtain ⟨rfl, rfl⟩ := h4
    by_cases k4 : k = 4
    · subst k4; simp
    · by_cases k5 : k = 5
      · subst k5; simp
      · by_cases k6 : k = 6
        · subst k6; simp
        · by_cases k7 : k = 7
          · subst k7; simp
          · simp [k4, k5, k6, k7]
  · have n4 : ∀ k', ¬ (c = 4 ∧ i = 0 ∧ k = k') := fun k' z => h4 ⟨z.1, z.2.1⟩
    simp only [if_neg (n4 _)]
theorem xn_B (σ : XSt) (a d e : Int32) : xp (xp (xp (xp σ 4 0 4 a) 4 0 6 a) 4 0 4 d) 4 0 5 e = xnS σ e a d (σ.1 4 0 7) := by
  refine x_ext (fun c i k => ?_) rfl
  simp only [up3, xp]
  by_cases h4 : c = 4 ∧ i = 0
  · obtain ⟨rfl, rfl⟩ := h4
    by_cases k4 : k = 4
    · subst k4; simp
    · by_cases k5 : k = 5
      · subst k5; simp
      · by_cases k6 : k = 6
        · subst k6; simp
        · by_cases k7 : k = 7
          · subst k7; simp
          · simp [k4, k5, k6, k7]
  · have n4 : ∀ k', ¬ (c = 4 ∧ i = 0 ∧ k = k') := fun k' z => h4 ⟨z.1, z.2.1⟩
    simp only [if_neg (n4 _)]
theorem xn_C (σ : XSt) (a d e f : Int32) : xp (xp (xp (xp (xp σ 4 0 4 a) 4 0 6 a) 4 0 4 d) 4 0 7 f) 4 0 5 e = xnS σ e a d f := by
  refine x_ext (fun c i k => ?_) rfl
  simp only [up3, xp]
  by_cases h4 : c = 4 ∧ i = 0
  · obtain ⟨rfl, rfl⟩ := h4
    by_cases k4 : k = 4
    · subst k4; simp
    · by_cases k5 : k = 5
      · subst k5; simp
      · by_cases k6 : k = 6
        · subst k6; simp
        · by_cases k7 : k = 7
          · subst k7; simp
          · simp [k4, k5, k6, k7]
  · have n4 : ∀ k', ¬ (c = 4 ∧ i = 0 ∧ k = k') := fun k' z => h4 ⟨z.1, z.2.1⟩
    simp only [if_neg (n4 _)]
theorem nx_eq {S : XSh} {σ : XSt} {t : TB} {p : Nat} (hT : XT σ t) (h4 : σ.1 4 0 4 = nI p) (hp : p ≤ t.2) : ∃ (q : Nat) (nb : Int32), f_X4_next S σ = xnS σ (ctok (tk t p)) (nI (tk t p).2.1) (nI q) nb ∧ q ≤ 160 ∧ ((tk t p).1 = 0 ∨ (tk t p).1 = 1 ∨ (tk t p).1 = 2 ∨ (tk t p).1 = 3 → q = (tk t p).2.2.2) ∧ ((tk t p).1 = 2 → nb = (tk t p).2.2.1.toInt32) := by
  have h160 := hT.2.1
  have ha := runN_le t isBl 162 p hp
  unfold tk
  have eEO : f_X4_endOf S σ 32 (σ.1 4 0 4) = nI (runN t isBl 162 p) := by
    rw [h4]; unfold f_X4_endOf
    exact eo_run hT (fun j hj => (so_tab j hj).1) _ 162 p hp (by omega)
  generalize runN t isBl 162 p = a at ha eEO
  unfold f_X4_next
  rw [eEO, hT.1]
  by_cases q : a < t.2
  · have hb := hT.2.2.1 a q
    obtain ⟨j, hj, ej⟩ := hT.nb q
    obtain ⟨-, tL, tD, tS⟩ := so_tab j hj
    have hS2 : XT (xp (xp σ 4 0 4 (nI a)) 4 0 6 (nI a)) t := (hT.xp (by decide) _).xp (by decide) _
    rw [if_pos (nI_lt q (by omega)), nI_clamp (by omega), ← hb, ej]
    unfold tkA
    rw [if_pos q, ej]
    by_cases cL : isLe (nI j) = true
    · rw [if_pos (tL.mp cL), if_pos (tL.mp cL), if_pos cL, tL.mp cL]
      have e2 : f_X4_endOf S (xp (xp σ 4 0 4 (nI a)) 4 0 6 (nI a)) 97 (nI a) = nI (runN t isLe 162 a) := by
        unfold f_X4_endOf
        exact eo_run hS2 (fun j hj => (so_tab j hj).2.1) _ 162 a ha (by omega)
      rw [e2]
      have g1 := runN_le t isLe 162 a ha
      have g2 := runN_gt t isLe 161 a q (by rw [ej]; exact cL)
      have g3 := runN_all t isLe 162 a
      generalize runN t isLe 162 a = e at g1 g2 g3
      obtain ⟨n, rfl⟩ : ∃ n, e = a + n := ⟨e - a, by omega⟩
      have hlo : ∀ i, i < n → t.1 (a + i) = σ.2 28 0 (a + i) := fun i hi => hT.lo (by omega) (le_lo (g3 (a + i) (by omega) (by omega)))
      have hw : f_X4_wordToken S (xp (xp (xp σ 4 0 4 (nI a)) 4 0 6 (nI a)) 4 0 4 (nI (a + n))) = wtok (wh (σ.2 28 0) a n) := by
        refine wt_eq (ta := a) (n := n) (xp_s _ _ _ _ _) ?_ (by omega) (by omega) (fun i hi => ?_)
        · rw [xp_o (by decide), xp_s]
        · show isLe (σ.2 28 0 (a + i)) = true
          rw [← hlo i hi]
          exact g3 (a + i) (by omega) (by omega)
      have hwh : ∀ m, m ≤ n → wh (σ.2 28 0) a m = wh t.1 a m := by
        intro m
        induction m with
        | zero => intro _; rfl
        | succ m ih => intro hm; rw [wh, wh, ih (by omega), hlo m (by omega)]
      rw [hw, hwh n (Nat.le_refl n), xn_B]
      refine ⟨a + n, σ.1 4 0 7, ?_, by omega, fun _ => rfl, fun z => absurd z (by decide : ¬ (1 : Int32) = 2)⟩
      rw [show a + n - a = n by omega]
      rfl
    · rw [if_neg (fun z => cL (tL.mpr z)), if_neg cL]
      by_cases cD : isDi (nI j) = true
      · rw [if_pos (tD.mp cD), if_neg (fun z => cL (tL.mpr z)), if_pos cD, tD.mp cD]
        have e2 : f_X4_endOf S (xp (xp σ 4 0 4 (nI a)) 4 0 6 (nI a)) 48 (nI a) = nI (runN t isDi 162 a) := by
          unfold f_X4_endOf
          exact eo_run hS2 (fun j hj => (so_tab j hj).2.2.1) _ 162 a ha (by omega)
        rw [e2]
        have g1 := runN_le t isDi 162 a ha
        have g2 := runN_gt t isDi 161 a q (by rw [ej]; exact cD)
        have g3 := runN_all t isDi 162 a
        generalize runN t isDi 162 a = e at g1 g2 g3
        have hn : f_X4_numberToken S (xp (xp (xp σ 4 0 4 (nI a)) 4 0 6 (nI a)) 4 0 4 (nI e)) = (if 4 < e - a then 14 else 12, xp (xp (xp (xp σ 4 0 4 (nI a)) 4 0 6 (nI a)) 4 0 4 (nI e)) 4 0 7 (numN t.1 a (e - a))) := by
          unfold f_X4_numberToken
          have hS3 : XT (xp (xp (xp (xp σ 4 0 4 (nI a)) 4 0 6 (nI a)) 4 0 4 (nI e)) 4 0 7 0) t := (hS2.xp (by decide) _).xp (by decide) _
          have k := nt_run (S := S) (t := t) (a := a) (e := e) g1 g3 (by omega) 162 0 _ hS3 (by rw [xp_o (by decide), xp_s]) (by rw [xp_o (by decide), xp_o (by decide), xp_s]) (xp_s _ _ _ _ _) (by omega) (by omega)
          rw [xp_xp] at k
          rw [show (xp (xp (xp σ 4 0 4 (nI a)) 4 0 6 (nI a)) 4 0 4 (nI e)).1 4 0 6 = nI a from by rw [xp_o (by decide), xp_s]]
          exact k
        rw [hn]
        dsimp only
        rw [xn_C]
        refine ⟨e, numN t.1 a (e - a), ?_, by omega, fun _ => rfl, fun z => ?_⟩
        · rw [show ctok ((if 4 < e - a then 4 else 2), a, nv t.1 a (e - a), e) = (if 4 < e - a then 14 else 12) from by
            unfold ctok
            split <;> rfl]
        · have z4 : ¬ 4 < e - a := fun y => by
            have : (if 4 < e - a then (4 : Int32) else 2) = 2 := z
            rw [if_pos y] at this
            exact absurd this (by decide)
          exact (num_nv t.1 a (e - a) (by omega)).symm
      · rw [if_neg (fun z => cD (tD.mpr z)), if_neg cD]
        have hx : xp (xp (xp (xp σ 4 0 4 (nI a)) 4 0 6 (nI a)) 4 0 4 (nI a + 1)) 4 0 5 14 = xnS σ 14 (nI a) (nI (a + 1)) (σ.1 4 0 7) := by rw [nI_1]; exact xn_B _ _ _ _
        have hx2 : xp (xp (xp (xp σ 4 0 4 (nI a)) 4 0 6 (nI a)) 4 0 4 (nI a + 1)) 4 0 5 (nI j) = xnS σ (nI j) (nI a) (nI (a + 1)) (σ.1 4 0 7) := by rw [nI_1]; exact xn_B _ _ _ _
        by_cases cS : isSg (nI j) = true
        · rw [if_neg (tS.mp cS), if_pos cS, hx2]
          refine ⟨a + 1, σ.1 4 0 7, ?_, by omega, fun _ => rfl, fun z => absurd z (by decide : ¬ (3 : Int32) = 2)⟩
          rw [show ctok (3, a, (nI j).toInt64, a + 1) = nI j from by
            unfold ctok
            rw [if_neg (by decide : ¬ (3 : Int32) = 0), if_neg (by decide : ¬ (3 : Int32) = 1), if_neg (by decide : ¬ (3 : Int32) = 2), if_pos rfl]
            exact Int32.toInt32_toInt64 _]
        · have c0 : ixL (Int8.toInt32 (Int32.toInt8 (((Int32.toUInt32 (nI j)) % 65536).toInt32))) 8 0 < 0 := Classical.byContradiction (fun z => cS (tS.mpr z))
          rw [if_pos c0, if_neg cS, hx]
          exact ⟨a + 1, _, rfl, by omega, fun z => absurd z (by decide : ¬ ((4 : Int32) = 0 ∨ (4 : Int32) = 1 ∨ (4 : Int32) = 2 ∨ (4 : Int32) = 3)), fun z => absurd z (by decide : ¬ (4 : Int32) = 2)⟩
  · have ea : a = t.2 := by omega
    subst ea
    rw [if_neg (fun z => by have := (nI_ltI (by omega) (by omega)).mp z; omega), xn_A]
    unfold tkA
    rw [if_neg q]
    exact ⟨t.2, _, rfl, by omega, fun _ => rfl, fun z => absurd z (by decide : ¬ (0 : Int32) = 2)⟩
