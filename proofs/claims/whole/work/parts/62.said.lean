/-! writers: said -/
/-- of a tongue's first k words the four counts -/
def tgS (τ : MSt) (x : Nat) (A : Int32 × Int32 × Int32 × Int32) : Int32 × Int32 × Int32 × Int32 :=
  if τ.2.2 44 x = 0 then (if τ.2.2 45 x = f_X10_withinOf τ (τ.2.2 43 x) then (A.1 + 1, A.2.1 + 1, A.2.2.1, A.2.2.2) else (A.1 + 0, A.2.1 + 1, A.2.2.1, A.2.2.2))
  else if f_X10_withinOf τ (τ.2.2 43 x) = τ.2.2 17 (Int32.toNatClampNeg (τ.2.2 43 x)) then A
  else if τ.2.2 45 x = τ.2.2 17 (Int32.toNatClampNeg (τ.2.2 43 x)) then (A.1, A.2.1, A.2.2.1 + 1, A.2.2.2 + 1)
  else (A.1, A.2.1, A.2.2.1 + 0, A.2.2.2 + 1)
def tgN (τ : MSt) (t : Nat) : Nat → Int32 × Int32 × Int32 × Int32
  | 0 => (0, 0, 0, 0)
  | k + 1 => tgS τ (12 * t + k) (tgN τ t k)
def tgSel (wh : Int32) (A : Int32 × Int32 × Int32 × Int32) : Int32 := if wh = 0 then A.1 else if wh = 1 then A.2.1 else if wh = 2 then A.2.2.1 else A.2.2.2
theorem tgL {τ : MSt} {t g : Nat} (ht : t < 6) (hg : g ≤ 12) (e : τ.2.2 42 t = nI g) (wh : Int32) : ∀ (n k : Nat), k ≤ g → g - k < n → f_X10_tongue_L39 n τ (nI t) wh (tgN τ t k).1 (tgN τ t k).2.1 (tgN τ t k).2.2.1 (tgN τ t k).2.2.2 (nI (12 * t + k)) = tgSel wh (tgN τ t g) := by
  intro n
  induction n with
  | zero => intro k _ h; exact absurd h (Nat.not_lt_zero _)
  | succ n ih =>
    intro k hk hn
    have e12 : (12 : Int32) * nI t = nI (12 * t) := pk_mul 12 t
    rw [f_X10_tongue_L39, nI_clamp (show t < 2 ^ 31 by omega), e, e12, nI_add, nI_clamp (show 12 * t + k < 2 ^ 31 by omega), nI_1]
    by_cases c : k = g
    · subst c
      rw [if_pos (Int32.le_refl _)]
      rfl
    · have c1 : ¬ nI (12 * t + g) ≤ nI (12 * t + k) := fun q => by have := (nI_leI (by omega) (by omega)).mp q; omega
      rw [if_neg c1]
      have ih1 := ih (k + 1) (by omega) (by omega)
      rw [tgN, tgS, ← Nat.add_assoc] at ih1
      by_cases a1 : τ.2.2 44 (12 * t + k) = 0
      · rw [if_pos a1]
        by_cases a2 : τ.2.2 45 (12 * t + k) = f_X10_withinOf τ (τ.2.2 43 (12 * t + k))
        · rw [if_pos a1, if_pos a2] at ih1
          rw [if_pos a2]; exact ih1
        · rw [if_pos a1, if_neg a2] at ih1
          rw [if_neg a2]; exact ih1
      · rw [if_neg a1]
        by_cases a2 : f_X10_withinOf τ (τ.2.2 43 (12 * t + k)) = τ.2.2 17 (Int32.toNatClampNeg (τ.2.2 43 (12 * t + k)))
        · rw [if_neg a1, if_pos a2] at ih1
          rw [if_pos a2]; exact ih1
        · by_cases a3 : τ.2.2 45 (12 * t + k) = τ.2.2 17 (Int32.toNatClampNeg (τ.2.2 43 (12 * t + k)))
          · rw [if_neg a1, if_neg a2, if_pos a3] at ih1
            rw [if_neg a2, if_pos a3]; exact ih1
          · rw [if_neg a1, if_neg a2, if_neg a3] at ih1
            rw [if_neg a2, if_neg a3]; exact ih1
theorem tg_is {τ : MSt} {t g : Nat} (ht : t < 6) (hg : g ≤ 12) (e : τ.2.2 42 t = nI g) {w : Nat} (hw : w < 4) : f_X10_tongue τ (nI t) (nI w) = tgSel (nI w) (tgN τ t g) := by
  have h1 : f_X10_isTongue (nI t) = 1 := by
    unfold f_X10_isTongue
    rw [in_bel (nI t) 5 5 (by decide) rfl, f_below, if_pos ⟨nI_pos' (by omega), nI_lt (by omega) (by decide)⟩]
  have h2 : f_X10_in (nI w).toInt64 0 3 = 1 := by
    rw [in_bel (nI w) 3 3 (by decide) rfl, f_below, if_pos ⟨nI_pos' (by omega), nI_lt (by omega) (by decide)⟩]
  have e12 : (12 : Int32) * nI t = nI (12 * t) := pk_mul 12 t
  unfold f_X10_tongue
  rw [h1, h2, if_neg n10, if_neg n10, e12]
  exact tgL ht hg e (nI w) 74 0 (Nat.zero_le _) (by omega)
theorem tgN_cg {τ τ' : MSt} {t g : Nat} (v : Dv τ τ') (h : ∀ k, k < g → τ'.2.2 43 (12 * t + k) = τ.2.2 43 (12 * t + k) ∧ τ'.2.2 44 (12 * t + k) = τ.2.2 44 (12 * t + k) ∧ τ'.2.2 45 (12 * t + k) = τ.2.2 45 (12 * t + k)) : ∀ k, k ≤ g → tgN τ' t k = tgN τ t k
  | 0, _ => rfl
  | k + 1, hk => by
    obtain ⟨a, b, c⟩ := h k (by omega)
    rw [tgN, tgN, tgN_cg v h k (by omega), tgS, tgS, a, b, c, dv_within v, v.2 17 (by omega)]
section W5
variable {S : XSh} {σ σ' : XSt} {τ τ' : MSt}
theorem eq_within (hR : Rel S σ τ) (hM : MInv τ) (hX : XInv S σ) {b : Nat} (hb : b < S 0 1) : σ.1 8 (f_X1_within S σ b) 0 = f_X10_withinOf τ (nI b) ∧ f_X1_within S σ b < S 0 0 := by
  have hB := hR.b.2 b hb
  have h24 := hX.nb.2
  have l1 := (hX.2.1 b hb).1
  have l2 := (hX.2.1 b hb).2
  obtain ⟨j, hj, ej⟩ := vp_in_of (hM.kind b) (by decide)
  unfold f_X1_within f_X10_withinOf
  rw [nI_clamp (show b < 2 ^ 31 by omega), hB.1, ej]
  by_cases c : f_X9_isOfKind (nI j) 1 = 0
  · have k := (kd_tab j hj).mp c
    rw [if_pos c, if_neg (fun z => k (Or.inl z)), if_neg (fun z => k (Or.inr z)), hB.2.2.1]
    exact ⟨(hR.w.2 _ l2).1, l2⟩
  · have k : nI j = 1 ∨ nI j = 3 := Classical.byContradiction (fun z => c ((kd_tab j hj).mpr z))
    rw [if_neg c, hB.2.1]
    refine ⟨?_, l1⟩
    rw [(hR.w.2 _ l1).1]
    by_cases k1 : nI j = 1
    · rw [if_pos k1]
    · rw [if_neg k1, if_pos (k.resolve_left k1)]
/-- five counts of a tongue, all after one word more -/
theorem judge_is (S : XSh) (σ : XSt) (t : Nat) (wi lb : Int32) (p3 p4 : Int32) : (∀ c, c ≠ 7 → (f_X7_judge S σ t wi lb p3 p4).1 c = σ.1 c) ∧ (f_X7_judge S σ t wi lb p3 p4).2 = σ.2 ∧ (∀ o k, o ≠ t → (f_X7_judge S σ t wi lb p3 p4).1 7 o k = σ.1 7 o k) ∧ (f_X7_judge S σ t wi lb p3 p4).1 7 t 0 = σ.1 7 t 0 + 1 ∧ ∀ A : Int32 × Int32 × Int32 × Int32, σ.1 7 t 1 = A.2.1 → σ.1 7 t 2 = A.1 → σ.1 7 t 3 = A.2.2.2 → σ.1 7 t 4 = A.2.2.1 →
    (let B := if p3 = 0 then (if p4 = wi then (A.1 + 1, A.2.1 + 1, A.2.2.1, A.2.2.2) else (A.1 + 0, A.2.1 + 1, A.2.2.1, A.2.2.2)) else if wi = lb then A else if p4 = lb then (A.1, A.2.1, A.2.2.1 + 1, A.2.2.2 + 1) else (A.1, A.2.1, A.2.2.1 + 0, A.2.2.2 + 1)
     (f_X7_judge S σ t wi lb p3 p4).1 7 t 1 = B.2.1 ∧ (f_X7_judge S σ t wi lb p3 p4).1 7 t 2 = B.1 ∧ (f_X7_judge S σ t wi lb p3 p4).1 7 t 3 = B.2.2.2 ∧ (f_X7_judge S σ t wi lb p3 p4).1 7 t 4 = B.2.2.1) := by
  have n12 {k k' : Nat} {x : Int32} {s : XSt} (h : k' ≠ k) : (xp s 7 t k x).1 7 t k' = s.1 7 t k' := xp_o (fun z => h z.2.2)
  have no {o k k' : Nat} {x : Int32} {s : XSt} (h : o ≠ t) : (xp s 7 t k x).1 7 o k' = s.1 7 o k' := xp_o (fun z => h z.2.1)
  unfold f_X7_judge
  by_cases c0 : p3 = 0
  · by_cases c1 : p4 = wi
    · simp only [if_pos c0, if_pos c1]
      refine ⟨fun c hc => ?_, rfl, fun o k ho => ?_, ?_, fun A a1 a2 a3 a4 => ⟨?_, ?_, ?_, ?_⟩⟩
      · rw [xp_c hc, xp_c hc, xp_c hc]
      · rw [no ho, no ho, no ho]
      · rw [n12 (by decide), n12 (by decide), xp_s]
      · rw [n12 (by decide), xp_s, n12 (by decide), a1]
      · rw [xp_s, n12 (by decide), n12 (by decide), a2]
      · rw [n12 (by decide), n12 (by decide), n12 (by decide), a3]
      · rw [n12 (by decide), n12 (by decide), n12 (by decide), a4]
    · simp only [if_pos c0, if_neg c1]
      refine ⟨fun c hc => ?_, rfl, fun o k ho => ?_, ?_, fun A a1 a2 a3 a4 => ⟨?_, ?_, ?_, ?_⟩⟩
      · rw [xp_c hc, xp_c hc, xp_c hc]
      · rw [no ho, no ho, no ho]
      · rw [n12 (by decide), n12 (by decide), xp_s]
      · rw [n12 (by decide), xp_s, n12 (by decide), a1]
      · rw [xp_s, n12 (by decide), n12 (by decide), a2]
      · rw [n12 (by decide), n12 (by decide), n12 (by decide), a3]
      · rw [n12 (by decide), n12 (by decide), n12 (by decide), a4]
  · by_cases c1 : wi = lb
    · simp only [if_neg c0, if_pos c1]
      refine ⟨fun c hc => ?_, rfl, fun o k ho => ?_, ?_, fun A a1 a2 a3 a4 => ⟨?_, ?_, ?_, ?_⟩⟩
      · rw [xp_c hc]
      · rw [no ho]
      · rw [xp_s]
      · rw [n12 (by decide), a1]
      · rw [n12 (by decide), a2]
      · rw [n12 (by decide), a3]
      · rw [n12 (by decide), a4]
    · by_cases c2 : p4 = lb
      · simp only [if_neg c0, if_neg c1, if_pos c2]
        refine ⟨fun c hc => ?_, rfl, fun o k ho => ?_, ?_, fun A a1 a2 a3 a4 => ⟨?_, ?_, ?_, ?_⟩⟩
        · rw [xp_c hc, xp_c hc, xp_c hc]
        · rw [no ho, no ho, no ho]
        · rw [n12 (by decide), n12 (by decide), xp_s]
        · rw [n12 (by decide), n12 (by decide), n12 (by decide), a1]
        · rw [n12 (by decide), n12 (by decide), n12 (by decide), a2]
        · rw [n12 (by decide), xp_s, n12 (by decide), a3]
        · rw [xp_s, n12 (by decide), n12 (by decide), a4]
      · simp only [if_neg c0, if_neg c1, if_neg c2]
        refine ⟨fun c hc => ?_, rfl, fun o k ho => ?_, ?_, fun A a1 a2 a3 a4 => ⟨?_, ?_, ?_, ?_⟩⟩
        · rw [xp_c hc, xp_c hc, xp_c hc]
        · rw [no ho, no ho, no ho]
        · rw [n12 (by decide), n12 (by decide), xp_s]
        · rw [n12 (by decide), n12 (by decide), n12 (by decide), a1]
        · rw [n12 (by decide), n12 (by decide), n12 (by decide), a2]
        · rw [n12 (by decide), xp_s, n12 (by decide), a3]
        · rw [xp_s, n12 (by decide), n12 (by decide), a4]
end W5
