/-! one heap of both -/
def Dj (E : ME) (am : XAd) (S : XSh) : Prop := ∀ c i, i < lim S c → am c i ≠ E.2.2 ∧ ∀ k ∈ mAr, am c i ≠ E.2.1 k
theorem jh_comm {E : ME} {am : XAd} {S : XSh} {σ : XSt} {τ : MSt} (hX : XOk am S) (hD : Dj E am S) : xH (mH E τ) am S σ = mH (xH E.1 am S σ, E.2.1, E.2.2) τ := by
  funext a
  by_cases q : ∃ c i : Nat, i < lim S c ∧ am c i = a
  · obtain ⟨c, i, h, rfl⟩ := q
    have hf : mAr.find? (fun k => E.2.1 k == am c i) = none := List.find?_eq_none.mpr (fun k hk => by
      have := (hD c i h).2 k hk
      simpa using fun z => this z.symm)
    rw [xH_at hX σ h]
    unfold mH
    dsimp only
    rw [if_neg (hD c i h).1, hf]
    exact (xH_at hX σ h).symm
  · have ho : ∀ c i, i < lim S c → am c i ≠ a := fun c i h z => q ⟨c, i, h, z⟩
    rw [xH_out ho]
    unfold mH
    dsimp only
    by_cases e : a = E.2.2
    · rw [if_pos e, if_pos e]
    · rw [if_neg e, if_neg e]
      cases mAr.find? (fun k => E.2.1 k == a) with
      | some k => rfl
      | none => exact (xH_out ho).symm
theorem mh_free {E : ME} (hE : MEok E) {τ : MSt} {q : Nat} (hq : mH E τ q = none) : q ≠ E.2.2 ∧ ∀ k ∈ mAr, q ≠ E.2.1 k := by
  refine ⟨fun z => ?_, fun k hk z => ?_⟩
  · rw [z, mH_this] at hq; cases hq
  · rw [z, mH_arr hE τ hk] at hq; cases hq
def JI (E : ME) (q1 : Nat) (h : hH) : Prop := ∃ (am : XAd) (S : XSh) (σ : XSt) (τ : MSt), XOk am S ∧ am 9 0 = q1 ∧ Dj E am S ∧ Al S σ τ ∧ h = xH (mH E τ) am S σ
def isI (r : Value) : Prop := ∃ x : Int32, r = .int x
def isJ (r : Value) : Prop := ∃ x : Int64, r = .long x
/-- a call of the class's, then the same of the reference's: one answer, both alike again -/
def JM (g : GC) (E : ME) (q1 d : Nat) (yx : MethodName) (cx : ByteArray) (mx : Nat) (ym : MethodName) (cm : ByteArray) (mm : Nat) (ret : Option FieldType) (V : Value → Prop) (args : List Value) (h : hH) : Prop :=
  ∃ (c1 n1 : Nat) (KX : Option Value → hH → Prop), c1 ≤ 2 ∧ n1 ≤ 1003 ∧ AM g d c1 n1 yx cx mx ret (.ref q1 :: args) h KX ∧ (∃ fs, h q1 = some (.inr (9, fs))) ∧ ∀ v h', KX v h' → ∃ (r : Value) (KM : Option Value → hH → Prop), v = some r ∧ V r ∧ AM g d 0 0 ym cm mm ret (.ref E.2.2 :: args) h' KM ∧ (∃ fs, h' E.2.2 = some (.inr (10, fs))) ∧ ∀ v' h'', KM v' h'' → v' = some r ∧ JI E q1 h''
section JJ
variable {g : GC} {E : ME} {q1 d : Nat} {am : XAd} {S : XSh} {σ σ1 : XSt} {τ : MSt}
theorem J_end {ym : MethodName} {cm : ByteArray} {mm : Nat} {ret : Option FieldType} {V : Value → Prop} {args : List Value} {r : Value} {KT : Option Value → MSt → Prop} (hE : MEok E) (hX : XOk am S) (h9 : am 9 0 = q1) (hD : Dj E am S) (hV : V r) (ct : ∀ E' : ME, MEok E' → MC g E' d ym cm mm ret args KT τ) (w : ∀ v τ', KT v τ' → v = some r ∧ Al S σ1 τ') : ∃ (r' : Value) (KM : Option Value → hH → Prop), some r = some r' ∧ V r' ∧ AM g d 0 0 ym cm mm ret (.ref E.2.2 :: args) (xH (mH E τ) am S σ1) KM ∧ (∃ fs, (xH (mH E τ) am S σ1) E.2.2 = some (.inr (10, fs))) ∧ ∀ v' h'', KM v' h'' → v' = some r' ∧ JI E q1 h'' := by
  rw [jh_comm hX hD]
  refine ⟨r, _, rfl, hV, ct (xH E.1 am S σ1, E.2.1, E.2.2) hE, ⟨_, mH_this _ _⟩, fun v' h'' hh => ?_⟩
  obtain ⟨t', e4, e5⟩ := hh
  obtain ⟨e6, e7⟩ := w v' t' e5
  subst e4
  exact ⟨e6, am, S, σ1, t', hX, h9, hD, e7, (jh_comm hX hD).symm⟩
theorem J_rel {yx : MethodName} {cx : ByteArray} {mx : Nat} {ym : MethodName} {cm : ByteArray} {mm : Nat} {ret : Option FieldType} {V : Value → Prop} {args : List Value} {r : Value} {KT : Option Value → MSt → Prop} (hE : MEok E) (hX : XOk am S) (h9 : am 9 0 = q1) (hD : Dj E am S) (hV : V r) (cc : XC g (mH E τ) am S d yx cx mx ret (.ref (am 9 0) :: args) (fun v σ' => v = some r ∧ σ' = σ1) σ) (ct : ∀ E' : ME, MEok E' → MC g E' d ym cm mm ret args KT τ) (w : ∀ v τ', KT v τ' → v = some r ∧ Al S σ1 τ') : JM g E q1 d yx cx mx ym cm mm ret V args (xH (mH E τ) am S σ) := by
  rw [h9] at cc
  refine ⟨0, 0, _, Nat.zero_le _, Nat.zero_le _, cc, ⟨_, by rw [← h9]; exact xH_at hX σ (c := 9) (i := 0) (Nat.le_of_ble_eq_true rfl)⟩, fun v h' hh => ?_⟩
  obtain ⟨s', e1, e2, e3⟩ := hh
  subst e3; subst e1; subst e2
  exact J_end hE hX h9 hD hV ct w
theorem J_wine (hE : MEok E) (hG : GX g) (hd : 3 ≤ d) (hX : XOk am S) (h9 : am 9 0 = q1) (hD : Dj E am S) (hA : Al S σ τ) (a b c e : Int32) : JM g E q1 d yX9_wine cX9_wine 5 yX10_wine cX10_wine 5 (some .int) isI [.int a, .int b, .int c, .int e] (xH (mH E τ) am S σ) := by
  have cc := mk_X9_wine (g := g) (B := mH E τ) hX hG hd σ a b c e hA.2.1
  rw [h9] at cc
  have ct : ∀ E' : ME, MEok E' → MC g E' d yX10_wine cX10_wine 5 (some .int) [.int a, .int b, .int c, .int e] (fun v τ' => v = some (.int (f_X10_wine τ a b c e).1) ∧ τ' = (f_X10_wine τ a b c e).2) τ := fun E' h' => ok_X10_wine h' (by omega) τ a b c e hA.2.2
  refine ⟨1, 6, _, by decide, by decide, cc, ⟨_, by rw [← h9]; exact xH_at hX σ (c := 9) (i := 0) (Nat.le_of_ble_eq_true rfl)⟩, fun v h' hh => ?_⟩
  rcases hh with ⟨b1, rfl, rfl⟩ | ⟨b1, ⟨b2, rfl, rfl⟩ | ⟨b2, rfl, q, ok, ho, hB, rfl⟩⟩
  · rcases wine_or hA a b c e with ⟨_, w⟩ | ⟨n, _⟩ | ⟨n, _⟩
    · exact J_end hE hX h9 hD ⟨_, rfl⟩ ct (fun v τ' hh => by rw [w] at hh; obtain ⟨rfl, rfl⟩ := hh; exact ⟨rfl, hA⟩)
    · exact absurd b1 n
    · exact absurd b1 n
  · rcases wine_or hA a b c e with ⟨n, _⟩ | ⟨_, _, w⟩ | ⟨_, n, _⟩
    · exact absurd n b1
    · exact J_end hE hX h9 hD ⟨_, rfl⟩ ct (fun v τ' hh => by rw [w] at hh; obtain ⟨rfl, rfl⟩ := hh; exact ⟨rfl, hA⟩)
    · omega
  · rcases wine_or hA a b c e with ⟨n, _⟩ | ⟨_, n, _⟩ | ⟨_, _, w1, w2⟩
    · exact absurd n b1
    · omega
    · have hq := mh_free hE hB
      have hD' : Dj E (amU am 8 (S 0 0) q) (SU S 0 0 (S 0 0 + 1)) := fun c i h => by
        rw [lim_8] at h
        by_cases z : c = 8 ∧ i = S 0 0
        · rw [z.1, z.2, amU_s]; exact hq
        · rw [amU_n z]
          refine hD c i ?_
          by_cases z8 : c = 8
          · subst z8
            rw [if_pos rfl] at h
            have : i ≠ S 0 0 := fun y => z ⟨rfl, y⟩
            show i < S 0 0
            omega
          · rw [if_neg z8] at h; exact h
      exact J_end hE ok ((amU_n (fun y => by cases y.1)).trans h9) hD' ⟨_, rfl⟩ ct (fun v τ' hh => by obtain ⟨rfl, rfl⟩ := hh; exact ⟨by rw [w1], w2⟩)
theorem J_bottle (hE : MEok E) (hG : GX g) (hd : 5 ≤ d) (hX : XOk am S) (h9 : am 9 0 = q1) (hD : Dj E am S) (hA : Al S σ τ) (a b c : Int32) : JM g E q1 d yX9_bottle cX9_bottle 6 yX10_bottle cX10_bottle 4 (some .int) isI [.int a, .int b, .int c] (xH (mH E τ) am S σ) := by
  have cc := mk_X9_bottle (g := g) (B := mH E τ) hX hG hd σ a b c hA.2.1
  rw [h9] at cc
  have ct : ∀ E' : ME, MEok E' → MC g E' d yX10_bottle cX10_bottle 4 (some .int) [.int a, .int b, .int c] (fun v τ' => v = some (.int (f_X10_bottle τ a b c).1) ∧ τ' = (f_X10_bottle τ a b c).2) τ := fun E' h' => ok_X10_bottle h' (by omega) τ a b c hA.2.2
  refine ⟨1, 9, _, by decide, by decide, cc, ⟨_, by rw [← h9]; exact xH_at hX σ (c := 9) (i := 0) (Nat.le_of_ble_eq_true rfl)⟩, fun v h' hh => ?_⟩
  rcases hh with ⟨b1, rfl, rfl⟩ | ⟨b1, ⟨b2, rfl, rfl⟩ | ⟨b2, rfl, q, ok, ho, hB, rfl⟩⟩
  · rcases bottle_or hA a b c with ⟨_, w⟩ | ⟨n, _⟩ | ⟨n, _⟩
    · exact J_end hE hX h9 hD ⟨_, rfl⟩ ct (fun v τ' hh => by rw [w] at hh; obtain ⟨rfl, rfl⟩ := hh; exact ⟨rfl, hA⟩)
    · exact absurd b1 n
    · exact absurd b1 n
  · rcases bottle_or hA a b c with ⟨n, _⟩ | ⟨_, _, w⟩ | ⟨_, n, _⟩
    · exact absurd n b1
    · exact J_end hE hX h9 hD ⟨_, rfl⟩ ct (fun v τ' hh => by rw [w] at hh; obtain ⟨rfl, rfl⟩ := hh; exact ⟨rfl, hA⟩)
    · omega
  · rcases bottle_or hA a b c with ⟨n, _⟩ | ⟨_, n, _⟩ | ⟨_, _, w1, w2⟩
    · exact absurd n b1
    · omega
    · have hq := mh_free hE hB
      have hD' : Dj E (amU am 1 (S 0 1) q) (boU S (S 0 1) (b / 10).toNatClampNeg (b - b / 10 * 10).toNatClampNeg) := fun c i h => by
        unfold boU at h
        rw [lim_1] at h
        by_cases z : c = 1 ∧ i = S 0 1
        · rw [z.1, z.2, amU_s]; exact hq
        · rw [amU_n z]
          refine hD c i ?_
          by_cases z8 : c = 1
          · subst z8
            rw [if_pos rfl] at h
            have : i ≠ S 0 1 := fun y => z ⟨rfl, y⟩
            show i < S 0 1
            omega
          · rw [if_neg z8] at h; exact h
      exact J_end hE ok ((amU_n (fun y => by cases y.1)).trans h9) hD' ⟨_, rfl⟩ ct (fun v τ' hh => by obtain ⟨rfl, rfl⟩ := hh; exact ⟨by rw [w1], w2⟩)
theorem J_text (hE : MEok E) (hG : GX g) (hd : 51 ≤ d) (hX : XOk am S) (h9 : am 9 0 = q1) (hD : Dj E am S) (hA : Al S σ τ) : JM g E q1 d yX9_text cX9_text 2 yX10_text cX10_text 2 (some .int) isI [] (xH (mH E τ) am S σ) := by
  have h6 := hA.2.1.nr.2
  have e3 : τ.1 3 = nI (S 0 2) := hA.1.r.1
  have ct : ∀ E' : ME, MEok E' → MC g E' d yX10_text cX10_text 2 (some .int) [] (Kt τ) τ := fun E' h' => mk_text h' (by omega) τ hA.2.2
  by_cases c6 : S 0 2 = 6
  · have cc := mk_X9_text (g := g) (B := mH E τ) hX hG hd σ _ (tape_xt hA (n := 0) (by decide)) hA.2.1
    rw [h9] at cc
    refine ⟨2, 1003, _, by decide, by decide, cc, ⟨_, by rw [← h9]; exact xH_at hX σ (c := 9) (i := 0) (Nat.le_of_ble_eq_true rfl)⟩, fun v h' hh => ?_⟩
    rcases hh with ⟨b1, rfl, rfl⟩ | ⟨b1, _⟩
    · refine J_end hE hX h9 hD ⟨_, rfl⟩ ct (fun v τ' hh => ?_)
      unfold Kt at hh
      rw [if_pos (by rw [e3, c6]; rfl)] at hh
      obtain ⟨rfl, rfl⟩ := hh
      exact ⟨rfl, hA⟩
    · omega
  · have n6 : S 0 2 < 6 := by omega
    have ek : (τ.1 3).toNatClampNeg = S 0 2 := by rw [e3, nI_clamp (by omega)]
    have k6 : ¬ τ.1 3 = 6 := fun z => c6 (by
      have := congrArg Int32.toNatClampNeg (e3.symm.trans z)
      rw [nI_clamp (by omega)] at this
      exact this)
    have cc := mk_X9_text (g := g) (B := mH E τ) hX hG hd σ _ (tape_xt hA n6) hA.2.1
    rw [h9] at cc
    refine ⟨2, 1003, _, by decide, by decide, cc, ⟨_, by rw [← h9]; exact xH_at hX σ (c := 9) (i := 0) (Nat.le_of_ble_eq_true rfl)⟩, fun v h' hh => ?_⟩
    rcases hh with ⟨b1, _⟩ | ⟨_, hh⟩
    · omega
    · cases eg : textG (txt (txS τ (S 0 2)) (S 0 2)) with
      | error y =>
        rw [eg] at hh
        obtain ⟨_, rfl, s1, rfl, hR⟩ := hh
        refine J_end hE hX h9 hD ⟨_, rfl⟩ ct (fun v τ' hk => ?_)
        unfold Kt at hk
        rw [if_neg k6, ek, eg] at hk
        obtain ⟨rfl, sm⟩ := hk
        exact ⟨rfl, (tape_rel hA rfl n6 hR).smR sm⟩
      | ok r =>
        rw [eg] at hh
        obtain ⟨rfl, hl, q2, q3, fb, s1, ok, ho, hB1, hB2, rfl, hfb, hR⟩ := hh
        have f1 := mh_free hE hB1
        have f2 := mh_free hE hB2
        have hD' : Dj E (ruA am (S 0 2) q2 q3) (ruU S (S 0 2) (r.1.1 ++ r.2.1.1 ++ r.2.2.1).length) := fun c i h => by
          unfold ruU at h
          rw [lim_5] at h
          by_cases z : c = 5 ∧ i = S 0 2
          · rw [z.1, z.2, ruA_5]; exact f1
          · by_cases z' : c = 32 ∧ i = S 0 2
            · rw [z'.1, z'.2, ruA_32]; exact f2
            · rw [ruA_o z z']
              refine hD c i ?_
              by_cases w : c = 5 ∨ c = 32
              · rw [if_pos w] at h
                rcases w with rfl | rfl
                · have : i ≠ S 0 2 := fun y => z ⟨rfl, y⟩
                  show i < S 0 2
                  omega
                · have : i ≠ S 0 2 := fun y => z' ⟨rfl, y⟩
                  show i < S 0 2
                  omega
              · rw [if_neg w] at h; exact h
        refine J_end hE ok ((ruA_o (fun y => by cases y.1) (fun y => by cases y.1)).trans h9) hD' ⟨_, rfl⟩ ct (fun v τ' hk => ?_)
        unfold Kt at hk
        rw [if_neg k6, ek, eg, e3, nI_1] at hk
        obtain ⟨rfl, sm⟩ := hk
        exact ⟨rfl, (rule_rel (tape_rel hA rfl n6 hR) rfl n6 eg rfl hl hfb).smR sm⟩
-- METHODS of which nothing is made: one answer, both alike
theorem J_drunk (hE : MEok E) (hG : GX g) (hd : 43 ≤ d) (hX : XOk am S) (h9 : am 9 0 = q1) (hD : Dj E am S) (hA : Al S σ τ) (p1 : Int32) (p2 : Int32) : JM g E q1 d yX9_drunk cX9_drunk 5 yX10_drunk cX10_drunk 4 (some .int) isI [.int p1, .int p2] (xH (mH E τ) am S σ) := by
  have w := w_drunk hA p1 p2
  exact J_rel hE hX h9 hD ⟨_, rfl⟩ (ok_X9_drunk hX hG (by omega) σ p1 p2 hA.2.1) (fun E' h' => ok_X10_drunk h' (by omega) τ p1 p2 hA.2.2) (fun v τ' hh => by obtain ⟨rfl, rfl⟩ := hh; exact ⟨by rw [w.1], w.2⟩)
theorem J_book (hE : MEok E) (hG : GX g) (hd : 43 ≤ d) (hX : XOk am S) (h9 : am 9 0 = q1) (hD : Dj E am S) (hA : Al S σ τ) (p1 : Int32) (p2 : Int32) (p3 : Int32) (p4 : Int32) : JM g E q1 d yX9_book cX9_book 5 yX10_book cX10_book 5 (some .int) isI [.int p1, .int p2, .int p3, .int p4] (xH (mH E τ) am S σ) := by
  have w := w_book hA p1 p2 p3 p4
  exact J_rel hE hX h9 hD ⟨_, rfl⟩ (ok_X9_book hX hG (by omega) σ p1 p2 p3 p4) (fun E' h' => ok_X10_book h' (by omega) τ p1 p2 p3 p4 hA.2.2) (fun v τ' hh => by obtain ⟨rfl, rfl⟩ := hh; exact ⟨by rw [w.1], w.2⟩)
theorem J_test (hE : MEok E) (hG : GX g) (hd : 43 ≤ d) (hX : XOk am S) (h9 : am 9 0 = q1) (hD : Dj E am S) (hA : Al S σ τ) (p1 : Int32) (p2 : Int32) : JM g E q1 d yX9_test cX9_test 4 yX10_test cX10_test 4 (some .int) isI [.int p1, .int p2] (xH (mH E τ) am S σ) := by
  have w := w_test hA p1 p2
  exact J_rel hE hX h9 hD ⟨_, rfl⟩ (ok_X9_test hX hG (by omega) σ p1 p2) (fun E' h' => ok_X10_test h' (by omega) τ p1 p2 hA.2.2) (fun v τ' hh => by obtain ⟨rfl, rfl⟩ := hh; exact ⟨by rw [w.1], w.2⟩)
theorem J_told (hE : MEok E) (hG : GX g) (hd : 43 ≤ d) (hX : XOk am S) (h9 : am 9 0 = q1) (hD : Dj E am S) (hA : Al S σ τ) (p1 : Int32) (p2 : Int32) : JM g E q1 d yX9_told cX9_told 4 yX10_told cX10_told 3 (some .int) isI [.int p1, .int p2] (xH (mH E τ) am S σ) := by
  have w := eq_told hA.1 hA.2.2 hA.2.1 p1 p2
  exact J_rel hE hX h9 hD ⟨_, rfl⟩ (ok_X9_told hX hG (by omega) σ p1 p2 hA.2.1) (fun E' h' => ok_X10_told h' (by omega) τ p1 p2 hA.2.2 hA.rok) (fun v τ' hh => by obtain ⟨rfl, sm⟩ := hh; exact ⟨by rw [w], (hA.q (q_told S σ p1 p2)).smR sm⟩)
theorem J_shows (hE : MEok E) (hG : GX g) (hd : 43 ≤ d) (hX : XOk am S) (h9 : am 9 0 = q1) (hD : Dj E am S) (hA : Al S σ τ) (p1 : Int32) (p2 : Int32) : JM g E q1 d yX9_shows cX9_shows 4 yX10_shows cX10_shows 3 (some .int) isI [.int p1, .int p2] (xH (mH E τ) am S σ) := by
  have w := eq_shows hA.1 hA.2.1 p1 p2
  exact J_rel hE hX h9 hD ⟨_, rfl⟩ (ok_X9_shows hX hG (by omega) σ p1 p2 hA.2.1) (fun E' h' => ok_X10_shows h' (by omega) τ p1 p2 hA.2.2) (fun v τ' hh => by obtain ⟨rfl, rfl⟩ := hh; exact ⟨by rw [w], hA⟩)
theorem J_sale (hE : MEok E) (hG : GX g) (hd : 43 ≤ d) (hX : XOk am S) (h9 : am 9 0 = q1) (hD : Dj E am S) (hA : Al S σ τ) (p1 : Int32) (p2 : Int32) (p3 : Int32) (p4 : Int32) : JM g E q1 d yX9_sale cX9_sale 7 yX10_sale cX10_sale 6 (some .int) isI [.int p1, .int p2, .int p3, .int p4] (xH (mH E τ) am S σ) := by
  have w := w_sale hA p1 p2 p3 p4
  exact J_rel hE hX h9 hD ⟨_, rfl⟩ (ok_X9_sale hX hG (by omega) σ p1 p2 p3 p4 hA.2.1) (fun E' h' => ok_X10_sale h' (by omega) τ p1 p2 p3 p4 hA.2.2) (fun v τ' hh => by obtain ⟨rfl, rfl⟩ := hh; exact ⟨by rw [w.1], w.2⟩)
theorem J_feed (hE : MEok E) (hG : GX g) (hd : 43 ≤ d) (hX : XOk am S) (h9 : am 9 0 = q1) (hD : Dj E am S) (hA : Al S σ τ) (p1 : Int32) (p2 : Int64) : JM g E q1 d yX9_feed cX9_feed 5 yX10_feed cX10_feed 5 (some .int) isI [.int p1, .long p2] (xH (mH E τ) am S σ) := by
  have w := w_feed hA p1 p2
  exact J_rel hE hX h9 hD ⟨_, rfl⟩ (ok_X9_feed hX hG (by omega) σ p1 p2 hA.2.1) (fun E' h' => ok_X10_feed h' (by omega) τ p1 p2 hA.2.2) (fun v τ' hh => by obtain ⟨rfl, rfl⟩ := hh; exact ⟨by rw [w.1], w.2⟩)
theorem J_force (hE : MEok E) (hG : GX g) (hd : 43 ≤ d) (hX : XOk am S) (h9 : am 9 0 = q1) (hD : Dj E am S) (hA : Al S σ τ) (p1 : Int32) : JM g E q1 d yX9_force cX9_force 3 yX10_force cX10_force 3 (some .int) isI [.int p1] (xH (mH E τ) am S σ) := by
  have w := w_force hA p1
  exact J_rel hE hX h9 hD ⟨_, rfl⟩ (ok_X9_force hX hG (by omega) σ p1 hA.2.1) (fun E' h' => ok_X10_force h' (by omega) τ p1 hA.2.2) (fun v τ' hh => by obtain ⟨rfl, rfl⟩ := hh; exact ⟨by rw [w.1], w.2⟩)
theorem J_left (hE : MEok E) (hG : GX g) (hd : 43 ≤ d) (hX : XOk am S) (h9 : am 9 0 = q1) (hD : Dj E am S) (hA : Al S σ τ) (p1 : Int32) (p2 : Int32) : JM g E q1 d yX9_left cX9_left 4 yX10_left cX10_left 5 (some .int) isI [.int p1, .int p2] (xH (mH E τ) am S σ) := by
  have w := eq_left hA.1 hA.2.1 p1 p2
  exact J_rel hE hX h9 hD ⟨_, rfl⟩ (ok_X9_left hX hG (by omega) σ p1 p2 hA.2.1) (fun E' h' => ok_X10_left h' (by omega) τ p1 p2 hA.2.2) (fun v τ' hh => by obtain ⟨rfl, rfl⟩ := hh; exact ⟨by rw [w], hA⟩)
theorem J_odds (hE : MEok E) (hG : GX g) (hd : 43 ≤ d) (hX : XOk am S) (h9 : am 9 0 = q1) (hD : Dj E am S) (hA : Al S σ τ) (p1 : Int32) (p2 : Int32) : JM g E q1 d yX9_odds cX9_odds 8 yX10_odds cX10_odds 10 (some .long) isJ [.int p1, .int p2] (xH (mH E τ) am S σ) := by
  have w := eq_odds hA.1 hA.2.2 hA.2.1 p1 p2
  exact J_rel hE hX h9 hD ⟨_, rfl⟩ (ok_X9_odds hX hG (by omega) σ p1 p2 hA.2.1) (fun E' h' => ok_X10_odds h' (by omega) τ p1 p2 hA.2.2 hA.rok) (fun v τ' hh => by obtain ⟨rfl, sm⟩ := hh; exact ⟨by rw [w], (hA.q (q_odds S σ p1 p2)).smR sm⟩)
theorem J_source (hE : MEok E) (hG : GX g) (hd : 43 ≤ d) (hX : XOk am S) (h9 : am 9 0 = q1) (hD : Dj E am S) (hA : Al S σ τ) (p1 : Int32) (p2 : Int32) : JM g E q1 d yX9_source cX9_source 3 yX10_source cX10_source 3 (some .int) isI [.int p1, .int p2] (xH (mH E τ) am S σ) := by
  have w := eq_source hA.1 hA.2.2 hA.2.1 p1 p2
  exact J_rel hE hX h9 hD ⟨_, rfl⟩ (ok_X9_source hX hG (by omega) σ p1 p2 hA.2.1) (fun E' h' => ok_X10_source h' (by omega) τ p1 p2 hA.2.2) (fun v τ' hh => by obtain ⟨rfl, rfl⟩ := hh; exact ⟨by rw [w], hA⟩)
theorem J_worst (hE : MEok E) (hG : GX g) (hd : 43 ≤ d) (hX : XOk am S) (h9 : am 9 0 = q1) (hD : Dj E am S) (hA : Al S σ τ)  : JM g E q1 d yX9_worst cX9_worst 8 yX10_worst cX10_worst 5 (some .int) isI [] (xH (mH E τ) am S σ) := by
  have w := eq_worst hA.1 hA.2.2 hA.2.1
  exact J_rel hE hX h9 hD ⟨_, rfl⟩ (ok_X9_worst hX hG (by omega) σ hA.2.1) (fun E' h' => ok_X10_worst h' (by omega) τ hA.2.2) (fun v τ' hh => by obtain ⟨rfl, rfl⟩ := hh; exact ⟨by rw [w], hA⟩)
theorem J_mix (hE : MEok E) (hG : GX g) (hd : 43 ≤ d) (hX : XOk am S) (h9 : am 9 0 = q1) (hD : Dj E am S) (hA : Al S σ τ) (p1 : Int32) (p2 : Int32) (p3 : Int32) (p4 : Int32) : JM g E q1 d yX9_mix cX9_mix 12 yX10_mix cX10_mix 7 (some .int) isI [.int p1, .int p2, .int p3, .int p4] (xH (mH E τ) am S σ) := by
  have w := eq_mix hA.1 hA.2.1 p1 p2 p3 p4
  exact J_rel hE hX h9 hD ⟨_, rfl⟩ (ok_X9_mix hX hG (by omega) σ p1 p2 p3 p4 hA.2.1) (fun E' h' => ok_X10_mix h' (by omega) τ p1 p2 p3 p4 hA.2.2) (fun v τ' hh => by obtain ⟨rfl, rfl⟩ := hh; exact ⟨by rw [w], hA⟩)
theorem J_said (hE : MEok E) (hG : GX g) (hd : 43 ≤ d) (hX : XOk am S) (h9 : am 9 0 = q1) (hD : Dj E am S) (hA : Al S σ τ) (p1 : Int32) (p2 : Int32) (p3 : Int32) (p4 : Int32) : JM g E q1 d yX9_said cX9_said 7 yX10_said cX10_said 5 (some .int) isI [.int p1, .int p2, .int p3, .int p4] (xH (mH E τ) am S σ) := by
  have w := w_said hA p1 p2 p3 p4
  exact J_rel hE hX h9 hD ⟨_, rfl⟩ (ok_X9_said hX hG (by omega) σ p1 p2 p3 p4 hA.2.1) (fun E' h' => ok_X10_said h' (by omega) τ p1 p2 p3 p4 hA.2.2) (fun v τ' hh => by obtain ⟨rfl, rfl⟩ := hh; exact ⟨by rw [w.1], w.2⟩)
theorem J_tongue (hE : MEok E) (hG : GX g) (hd : 43 ≤ d) (hX : XOk am S) (h9 : am 9 0 = q1) (hD : Dj E am S) (hA : Al S σ τ) (p1 : Int32) (p2 : Int32) : JM g E q1 d yX9_tongue cX9_tongue 4 yX10_tongue cX10_tongue 9 (some .int) isI [.int p1, .int p2] (xH (mH E τ) am S σ) := by
  have w := eq_tongue hA.1 p1 p2
  exact J_rel hE hX h9 hD ⟨_, rfl⟩ (ok_X9_tongue hX hG (by omega) σ p1 p2) (fun E' h' => ok_X10_tongue h' (by omega) τ p1 p2 hA.2.2) (fun v τ' hh => by obtain ⟨rfl, rfl⟩ := hh; exact ⟨by rw [w], hA⟩)
theorem J_opened (hE : MEok E) (hG : GX g) (hd : 43 ≤ d) (hX : XOk am S) (h9 : am 9 0 = q1) (hD : Dj E am S) (hA : Al S σ τ) (p1 : Int32) (p2 : Int32) : JM g E q1 d yX9_opened cX9_opened 11 yX10_opened cX10_opened 11 (some .int) isI [.int p1, .int p2] (xH (mH E τ) am S σ) := by
  have w := eq_opened hA p1 p2
  exact J_rel hE hX h9 hD ⟨_, rfl⟩ (ok_X9_opened hX hG (by omega) σ p1 p2 hA.2.1) (fun E' h' => mk_opened h' (by omega) τ p1 p2 hA.2.2 hA.rok) (fun v τ' hh => by obtain ⟨rfl, sm⟩ := hh; exact ⟨by rw [w.1], (hA.q w.2).so sm⟩)
theorem J_owed (hE : MEok E) (hG : GX g) (hd : 43 ≤ d) (hX : XOk am S) (h9 : am 9 0 = q1) (hD : Dj E am S) (hA : Al S σ τ) (p1 : Int32) : JM g E q1 d yX9_owed cX9_owed 7 yX10_owed cX10_owed 5 (some .long) isJ [.int p1] (xH (mH E τ) am S σ) := by
  have w := eq_owed hA.1 hA.2.2 hA.2.1 p1
  exact J_rel hE hX h9 hD ⟨_, rfl⟩ (ok_X9_owed hX hG (by omega) σ p1 hA.2.1) (fun E' h' => ok_X10_owed h' (by omega) τ p1 hA.2.2) (fun v τ' hh => by obtain ⟨rfl, rfl⟩ := hh; exact ⟨by rw [w], hA⟩)
theorem J_chain (hE : MEok E) (hG : GX g) (hd : 43 ≤ d) (hX : XOk am S) (h9 : am 9 0 = q1) (hD : Dj E am S) (hA : Al S σ τ) (p1 : Int32) : JM g E q1 d yX9_chain cX9_chain 3 yX10_chain cX10_chain 5 (some .int) isI [.int p1] (xH (mH E τ) am S σ) := by
  have w := eq_chain hA.1 hA.2.1 p1
  exact J_rel hE hX h9 hD ⟨_, rfl⟩ (ok_X9_chain hX hG (by omega) σ p1 hA.2.1) (fun E' h' => ok_X10_chain h' (by omega) τ p1 hA.2.2) (fun v τ' hh => by obtain ⟨rfl, rfl⟩ := hh; exact ⟨by rw [w], hA⟩)
theorem J_falls (hE : MEok E) (hG : GX g) (hd : 43 ≤ d) (hX : XOk am S) (h9 : am 9 0 = q1) (hD : Dj E am S) (hA : Al S σ τ) (p1 : Int32) (p2 : Int32) : JM g E q1 d yX9_falls cX9_falls 9 yX10_falls cX10_falls 7 (some .long) isJ [.int p1, .int p2] (xH (mH E τ) am S σ) := by
  have w := eq_falls hA.1 hA.2.2 hA.2.1 p1 p2
  exact J_rel hE hX h9 hD ⟨_, rfl⟩ (ok_X9_falls hX hG (by omega) σ p1 p2 hA.2.1) (fun E' h' => mk_falls h' (by omega) τ p1 p2 hA.2.2 hA.rok) (fun v τ' hh => by obtain ⟨rfl, sm⟩ := hh; exact ⟨by rw [w], (hA.q (q_falls S σ p1 p2)).smR sm⟩)
theorem J_saw (hE : MEok E) (hG : GX g) (hd : 43 ≤ d) (hX : XOk am S) (h9 : am 9 0 = q1) (hD : Dj E am S) (hA : Al S σ τ) (p1 : Int32) : JM g E q1 d yX9_saw cX9_saw 4 yX10_saw cX10_saw 4 (some .int) isI [.int p1] (xH (mH E τ) am S σ) := by
  have w := eq_saw hA.1 hA.2.2 hA.2.1 p1
  exact J_rel hE hX h9 hD ⟨_, rfl⟩ (ok_X9_saw hX hG (by omega) σ p1 hA.2.1) (fun E' h' => ok_X10_saw h' (by omega) τ p1 hA.2.2) (fun v τ' hh => by obtain ⟨rfl, rfl⟩ := hh; exact ⟨by rw [w], hA⟩)
theorem J_image (hE : MEok E) (hG : GX g) (hd : 43 ≤ d) (hX : XOk am S) (h9 : am 9 0 = q1) (hD : Dj E am S) (hA : Al S σ τ)  : JM g E q1 d yX9_image cX9_image 3 yX10_image cX10_image 2 (some .int) isI [] (xH (mH E τ) am S σ) := by
  have w := w_image hA
  exact J_rel hE hX h9 hD ⟨_, rfl⟩ (ok_X9_image hX hG (by omega) σ hA.2.1) (fun E' h' => ok_X10_image h' (by omega) τ hA.2.2) (fun v τ' hh => by obtain ⟨rfl, rfl⟩ := hh; exact ⟨by rw [w.1], w.2⟩)
theorem J_back (hE : MEok E) (hG : GX g) (hd : 43 ≤ d) (hX : XOk am S) (h9 : am 9 0 = q1) (hD : Dj E am S) (hA : Al S σ τ)  : JM g E q1 d yX9_back cX9_back 3 yX10_back cX10_back 2 (some .int) isI [] (xH (mH E τ) am S σ) := by
  have w := w_back hA
  exact J_rel hE hX h9 hD ⟨_, rfl⟩ (ok_X9_back hX hG (by omega) σ hA.2.1) (fun E' h' => ok_X10_back h' (by omega) τ hA.2.2) (fun v τ' hh => by obtain ⟨rfl, rfl⟩ := hh; exact ⟨by rw [w.1], w.2⟩)
theorem J_count (hE : MEok E) (hG : GX g) (hd : 43 ≤ d) (hX : XOk am S) (h9 : am 9 0 = q1) (hD : Dj E am S) (hA : Al S σ τ) (p1 : Int32) : JM g E q1 d yX9_count cX9_count 2 yX10_count cX10_count 4 (some .int) isI [.int p1] (xH (mH E τ) am S σ) := by
  have w := eq_count hA.1 hA.2.2 hA.2.1 p1
  exact J_rel hE hX h9 hD ⟨_, rfl⟩ (ok_X9_count hX hG (by omega) σ p1 hA.2.1) (fun E' h' => ok_X10_count h' (by omega) τ p1 hA.2.2) (fun v τ' hh => by obtain ⟨rfl, rfl⟩ := hh; exact ⟨by rw [w], hA⟩)
theorem J_sheet (hE : MEok E) (hG : GX g) (hd : 43 ≤ d) (hX : XOk am S) (h9 : am 9 0 = q1) (hD : Dj E am S) (hA : Al S σ τ) (p1 : Int32) (p2 : Int32) (p3 : Int32) : JM g E q1 d yX9_sheet cX9_sheet 5 yX10_sheet cX10_sheet 5 (some .int) isI [.int p1, .int p2, .int p3] (xH (mH E τ) am S σ) := by
  have w := w_sheet hA p1 p2 p3
  exact J_rel hE hX h9 hD ⟨_, rfl⟩ (ok_X9_sheet hX hG (by omega) σ p1 p2 p3) (fun E' h' => ok_X10_sheet h' (by omega) τ p1 p2 p3 hA.2.2) (fun v τ' hh => by obtain ⟨rfl, rfl⟩ := hh; exact ⟨by rw [w.1], w.2⟩)
theorem J_cell (hE : MEok E) (hG : GX g) (hd : 43 ≤ d) (hX : XOk am S) (h9 : am 9 0 = q1) (hD : Dj E am S) (hA : Al S σ τ) (p1 : Int32) (p2 : Int32) (p3 : Int32) : JM g E q1 d yX9_cell cX9_cell 5 yX10_cell cX10_cell 4 (some .int) isI [.int p1, .int p2, .int p3] (xH (mH E τ) am S σ) := by
  have w := w_cell hA p1 p2 p3
  exact J_rel hE hX h9 hD ⟨_, rfl⟩ (ok_X9_cell hX hG (by omega) σ p1 p2 p3 hA.2.1) (fun E' h' => ok_X10_cell h' (by omega) τ p1 p2 p3 hA.2.2) (fun v τ' hh => by obtain ⟨rfl, rfl⟩ := hh; exact ⟨by rw [w.1], w.2⟩)
theorem J_copy (hE : MEok E) (hG : GX g) (hd : 43 ≤ d) (hX : XOk am S) (h9 : am 9 0 = q1) (hD : Dj E am S) (hA : Al S σ τ) (p1 : Int32) (p2 : Int32) (p3 : Int32) (p4 : Int32) (p5 : Int32) : JM g E q1 d yX9_copy cX9_copy 8 yX10_copy cX10_copy 9 (some .int) isI [.int p1, .int p2, .int p3, .int p4, .int p5] (xH (mH E τ) am S σ) := by
  have w := w_copy hA p1 p2 p3 p4 p5
  exact J_rel hE hX h9 hD ⟨_, rfl⟩ (ok_X9_copy hX hG (by omega) σ p1 p2 p3 p4 p5 hA.2.1) (fun E' h' => ok_X10_copy h' (by omega) τ p1 p2 p3 p4 p5 hA.2.2) (fun v τ' hh => by obtain ⟨rfl, rfl⟩ := hh; exact ⟨by rw [w.1], w.2⟩)
theorem J_sales (hE : MEok E) (hG : GX g) (hd : 43 ≤ d) (hX : XOk am S) (h9 : am 9 0 = q1) (hD : Dj E am S) (hA : Al S σ τ) (p1 : Int32) (p2 : Int32) (p3 : Int32) (p4 : Int32) : JM g E q1 d yX9_sales cX9_sales 9 yX10_sales cX10_sales 8 (some .int) isI [.int p1, .int p2, .int p3, .int p4] (xH (mH E τ) am S σ) := by
  have w := w_sales hA p1 p2 p3 p4
  exact J_rel hE hX h9 hD ⟨_, rfl⟩ (ok_X9_sales hX hG (by omega) σ p1 p2 p3 p4 hA.2.1) (fun E' h' => ok_X10_sales h' (by omega) τ p1 p2 p3 p4 hA.2.2) (fun v τ' hh => by obtain ⟨rfl, rfl⟩ := hh; exact ⟨by rw [w.1], w.2⟩)
theorem J_taken (hE : MEok E) (hG : GX g) (hd : 43 ≤ d) (hX : XOk am S) (h9 : am 9 0 = q1) (hD : Dj E am S) (hA : Al S σ τ) (p1 : Int32) (p2 : Int32) : JM g E q1 d yX9_taken cX9_taken 4 yX10_taken cX10_taken 4 (some .int) isI [.int p1, .int p2] (xH (mH E τ) am S σ) := by
  have w := eq_taken hA.1 hA.2.2 hA.2.1 p1 p2
  exact J_rel hE hX h9 hD ⟨_, rfl⟩ (ok_X9_taken hX hG (by omega) σ p1 p2 hA.2.1) (fun E' h' => ok_X10_taken h' (by omega) τ p1 p2 hA.2.2) (fun v τ' hh => by obtain ⟨rfl, rfl⟩ := hh; exact ⟨by rw [w], hA⟩)
end JJ
