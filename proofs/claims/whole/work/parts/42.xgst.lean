/-! the class while it reads -/
theorem tk_gt2 (t : TB) (k : Nat) (hk : (tk t k).1 = 2) : k < (tk t k).2.2.2 := by
  have h1 := runN_ge t isBl 162 k
  unfold tk at hk ⊢
  generalize runN t isBl 162 k = a at h1 hk ⊢
  unfold tkA at hk ⊢
  split
  · next q =>
    rw [if_pos q] at hk
    split
    · next q1 => exact Nat.lt_of_le_of_lt h1 (runN_gt t isLe 161 a q q1)
    · next q1 =>
      rw [if_neg q1] at hk
      split
      · next q2 => exact Nat.lt_of_le_of_lt h1 (runN_gt t isDi 161 a q q2)
      · next q2 =>
        rw [if_neg q2] at hk
        split
        · exact Nat.lt_succ_of_le h1
        · next q3 => rw [if_neg q3] at hk; exact absurd hk (by decide : ¬ (4 : Int32) = 2)
  · next q => rw [if_neg q] at hk; exact absurd hk (by decide : ¬ (0 : Int32) = 2)
def LenG (t : TB) (f : Nat → Rs) : Prop := ∀ p, p ≤ t.2 → ∀ r, f p = .ok r → p + r.1.length ≤ r.2.2
theorem LenG.one {t : TB} {al : Bool} {rO rE : Nat → Rs} (hO : al = true → LenG t rO) (hE : al = true → LenG t rE) (mE : al = true → Mono t rE) : LenG t (oneG t al rO rE) := by
  intro p hp r h
  have a2 := (tk_le t p hp).2.1
  have g3 := fun q : (tk t p).1 = 3 => tk_gt t p hp (Or.inr q)
  unfold oneG at h
  split at h
  · next q0 =>
    have := g3 q0.1
    split at h
    · next q =>
      cases e : rO (tk t p).2.2.2 with
      | error x => rw [e] at h; cases h
      | ok r' =>
        rw [e] at h; cases h
        have := hO q _ a2 _ e
        rw [List.length_append]
        show p + (r'.1.length + 1) ≤ r'.2.2
        omega
    · cases h
  · split at h
    · next q0 =>
      have := g3 q0.1
      split at h
      · next q =>
        cases e : rE (tk t p).2.2.2 with
        | error x => rw [e] at h; cases h
        | ok r' =>
          rw [e] at h
          dsimp only at h
          have k1 := hE q _ a2 _ e
          have k2 := (mE q _ a2).1 _ e
          split at h
          · cases h
            have := (tk_le t r'.2.2 k2.2).2.2
            show p + r'.1.length ≤ (tk t r'.2.2).2.2.2
            omega
          · cases h
      · cases h
    · split at h
      · next q0 => cases h; have := tk_gt2 t p q0; show p + 1 ≤ (tk t p).2.2.2; omega
      · split at h
        · next q0 =>
          have := tk_gt t p hp (Or.inl q0)
          cases e : nameIx (tk t p).2.2.1 with
          | none => rw [e] at h; cases h
          | some i => rw [e] at h; cases h; show p + 1 ≤ (tk t p).2.2.2; omega
        · cases h
theorem LenG.loop {t : TB} {op : Tk → Option Int32} {sub : Nat → Rs} (hs : LenG t sub) (ms : Mono t sub) (ho : OpOk op) : ∀ (n : Nat) (c : List Int32) (e : Ev) (p : Nat), p ≤ t.2 → ∀ r, loopG t op sub n c e p = .ok r → p + r.1.length ≤ r.2.2 + c.length := by
  intro n
  induction n with
  | zero => intro c e p _ r h; cases h
  | succ n ih =>
    intro c e p hp r h
    have a2 := (tk_le t p hp).2.1
    unfold loopG at h
    cases e1 : op (tk t p) with
    | none => rw [e1] at h; cases h; exact Nat.le_refl _
    | some k =>
      rw [e1] at h
      have hgt := tk_gt t p hp (ho _ _ e1)
      dsimp only at h
      cases e2 : sub (tk t p).2.2.2 with
      | error x => rw [e2] at h; cases h
      | ok r2 =>
        rw [e2] at h
        have k1 := hs _ a2 _ e2
        have k2 := (ms _ a2).1 _ e2
        have k3 := ih _ _ _ k2.2 r h
        rw [List.length_append, List.length_append] at k3
        have : ([k] : List Int32).length = 1 := rfl
        omega
theorem LenG.chain {t : TB} {op : Tk → Option Int32} {sub : Nat → Rs} (hs : LenG t sub) (ms : Mono t sub) (ho : OpOk op) : LenG t (chainG t op sub) := by
  intro p hp r h
  unfold chainG at h
  cases e : sub p with
  | error x => rw [e] at h; cases h
  | ok r2 =>
    rw [e] at h
    have k1 := hs _ hp _ e
    have k2 := (ms _ hp).1 _ e
    have k3 := LenG.loop hs ms ho _ _ _ _ k2.2 r h
    omega
theorem LenG.not {t : TB} {al : Bool} {rN add : Nat → Rs} (hN : al = true → LenG t rN) (hA : LenG t add) (mA : Mono t add) : LenG t (notG t al rN add) := by
  intro p hp r h
  have a2 := (tk_le t p hp).2.1
  unfold notG at h
  split at h
  · next q0 =>
    have := tk_gt t p hp (Or.inl q0.1)
    split at h
    · next q =>
      cases e : rN (tk t p).2.2.2 with
      | error x => rw [e] at h; cases h
      | ok r' =>
        rw [e] at h; cases h
        have := hN q _ a2 _ e
        rw [List.length_append]
        show p + (r'.1.length + 1) ≤ r'.2.2
        omega
    · cases h
  · cases e : add p with
    | error x => rw [e] at h; cases h
    | ok r1 =>
      rw [e] at h
      dsimp only at h
      have k1 := hA _ hp _ e
      have k2 := (mA _ hp).1 _ e
      split at h
      · next q =>
        have b2 := (tk_le t r1.2.2 k2.2).2.1
        have hgt := tk_gt t r1.2.2 k2.2 (Or.inr q.1)
        cases e2 : add (tk t r1.2.2).2.2.2 with
        | error x => rw [e2] at h; cases h
        | ok r2 =>
          rw [e2] at h; cases h
          have k3 := hA _ b2 _ e2
          rw [List.length_append, List.length_append]
          show p + (r1.1.length + r2.1.length + 1) ≤ r2.2.2
          omega
      · cases h; exact k1
theorem gram_len (t : TB) (ht : t.2 ≤ 160) : ∀ k, LenG t (gram t k).1 ∧ LenG t (gram t k).2.1 ∧ LenG t (gram t k).2.2
  | 0 => by
    have m1 : Mono t (oneG t false (fun _ => .error 0) (fun _ => .error 0)) := (gram_mono t ht 0).1
    have m3 : Mono t (notG t false (fun _ => .error 0) (addG t (oneG t false (fun _ => .error 0) (fun _ => .error 0)))) := (gram_mono t ht 0).2.2
    have h1 : LenG t (oneG t false (fun _ => .error 0) (fun _ => .error 0)) := LenG.one (al := false) (fun z => absurd z (by decide)) (fun z => absurd z (by decide)) (fun z => absurd z (by decide))
    have m2 := Mono.chain ht m1 opMul_ok
    have hA : LenG t (addG t (oneG t false (fun _ => .error 0) (fun _ => .error 0))) := LenG.chain (LenG.chain h1 m1 opMul_ok) m2 opAdd_ok
    have h2 : LenG t (notG t false (fun _ => .error 0) (addG t (oneG t false (fun _ => .error 0) (fun _ => .error 0)))) := LenG.not (al := false) (fun z => absurd z (by decide)) hA (Mono.chain ht m2 opAdd_ok)
    exact ⟨h1, LenG.chain (LenG.chain h2 m3 opAnd_ok) (Mono.chain ht m3 opAnd_ok) opOr_ok, h2⟩
  | k + 1 => by
    obtain ⟨i1, i2, i3⟩ := gram_len t ht k
    obtain ⟨j1, j2, j3⟩ := gram_mono t ht k
    have m1 : Mono t (oneG t true (gram t k).1 (gram t k).2.1) := (gram_mono t ht (k + 1)).1
    have m3 : Mono t (notG t true (gram t k).2.2 (addG t (oneG t true (gram t k).1 (gram t k).2.1))) := (gram_mono t ht (k + 1)).2.2
    have h1 : LenG t (oneG t true (gram t k).1 (gram t k).2.1) := LenG.one (al := true) (fun _ => i1) (fun _ => i2) (fun _ => j2)
    have m2 := Mono.chain ht m1 opMul_ok
    have hA : LenG t (addG t (oneG t true (gram t k).1 (gram t k).2.1)) := LenG.chain (LenG.chain h1 m1 opMul_ok) m2 opAdd_ok
    have h2 : LenG t (notG t true (gram t k).2.2 (addG t (oneG t true (gram t k).1 (gram t k).2.1))) := LenG.not (al := true) (fun _ => i3) hA (Mono.chain ht m2 opAdd_ok)
    exact ⟨h1, LenG.chain (LenG.chain h2 m3 opAnd_ok) (Mono.chain ht m3 opAnd_ok) opOr_ok, h2⟩
/-- tokens and their codes -/
def TkOk (T : Tk) : Prop := T.1 = 0 ∨ T.1 = 1 ∨ T.1 = 2 ∨ (T.1 = 3 ∧ ∃ c : Int32, isSg c = true ∧ T.2.2.1 = c.toInt64) ∨ T.1 = 4
theorem tk_ok (t : TB) (p : Nat) : TkOk (tk t p) := by
  unfold tk tkA
  split
  · split
    · exact Or.inr (Or.inl rfl)
    · split
      · split
        · exact Or.inr (Or.inr (Or.inr (Or.inr rfl)))
        · exact Or.inr (Or.inr (Or.inl rfl))
      · split
        · next q => exact Or.inr (Or.inr (Or.inr (Or.inl ⟨rfl, _, q, rfl⟩)))
        · exact Or.inr (Or.inr (Or.inr (Or.inr rfl)))
  · exact Or.inl rfl
theorem wtok_c (w : Int64) : (w = 40600 ∧ wtok w = nI 0) ∨ (w = 11047 ∧ wtok w = nI 1) ∨ (w = 5146 ∧ wtok w = nI 2) ∨ (w = 495765 ∧ wtok w = nI 3) ∨ (w = 256721 ∧ wtok w = nI 4) ∨ (w = 385240 ∧ wtok w = nI 5) ∨ (w = 2436392 ∧ wtok w = nI 6) ∨ (w = 8863997 ∧ wtok w = nI 7) ∨ (w = 307058 ∧ wtok w = nI 8) ∨ (w = 423 ∧ wtok w = nI 9) ∨ (w = 1111 ∧ wtok w = nI 10) ∨ (w = 10631 ∧ wtok w = nI 11) ∨ ((¬ w = 40600 ∧ ¬ w = 11047 ∧ ¬ w = 5146 ∧ ¬ w = 495765 ∧ ¬ w = 256721 ∧ ¬ w = 385240 ∧ ¬ w = 2436392 ∧ ¬ w = 8863997 ∧ ¬ w = 307058 ∧ ¬ w = 423 ∧ ¬ w = 1111 ∧ ¬ w = 10631) ∧ wtok w = nI 14) := by
  by_cases h0 : w = 40600
  · exact Or.inl ⟨h0, by rw [h0]; rfl⟩
  by_cases h1 : w = 11047
  · exact Or.inr (Or.inl ⟨h1, by rw [h1]; rfl⟩)
  by_cases h2 : w = 5146
  · exact Or.inr (Or.inr (Or.inl ⟨h2, by rw [h2]; rfl⟩))
  by_cases h3 : w = 495765
  · exact Or.inr (Or.inr (Or.inr (Or.inl ⟨h3, by rw [h3]; rfl⟩)))
  by_cases h4 : w = 256721
  · exact Or.inr (Or.inr (Or.inr (Or.inr (Or.inl ⟨h4, by rw [h4]; rfl⟩))))
  by_cases h5 : w = 385240
  · exact Or.inr (Or.inr (Or.inr (Or.inr (Or.inr (Or.inl ⟨h5, by rw [h5]; rfl⟩)))))
  by_cases h6 : w = 2436392
  · exact Or.inr (Or.inr (Or.inr (Or.inr (Or.inr (Or.inr (Or.inl ⟨h6, by rw [h6]; rfl⟩))))))
  by_cases h7 : w = 8863997
  · exact Or.inr (Or.inr (Or.inr (Or.inr (Or.inr (Or.inr (Or.inr (Or.inl ⟨h7, by rw [h7]; rfl⟩)))))))
  by_cases h8 : w = 307058
  · exact Or.inr (Or.inr (Or.inr (Or.inr (Or.inr (Or.inr (Or.inr (Or.inr (Or.inl ⟨h8, by rw [h8]; rfl⟩))))))))
  by_cases h9 : w = 423
  · exact Or.inr (Or.inr (Or.inr (Or.inr (Or.inr (Or.inr (Or.inr (Or.inr (Or.inr (Or.inl ⟨h9, by rw [h9]; rfl⟩)))))))))
  by_cases h10 : w = 1111
  · exact Or.inr (Or.inr (Or.inr (Or.inr (Or.inr (Or.inr (Or.inr (Or.inr (Or.inr (Or.inr (Or.inl ⟨h10, by rw [h10]; rfl⟩))))))))))
  by_cases h11 : w = 10631
  · exact Or.inr (Or.inr (Or.inr (Or.inr (Or.inr (Or.inr (Or.inr (Or.inr (Or.inr (Or.inr (Or.inr (Or.inl ⟨h11, by rw [h11]; rfl⟩)))))))))))
  exact Or.inr (Or.inr (Or.inr (Or.inr (Or.inr (Or.inr (Or.inr (Or.inr (Or.inr (Or.inr (Or.inr (Or.inr ⟨⟨h0, h1, h2, h3, h4, h5, h6, h7, h8, h9, h10, h11⟩, by unfold wtok; rw [if_neg h0, if_neg h1, if_neg h2, if_neg h3, if_neg h4, if_neg h5, if_neg h6, if_neg h7, if_neg h8, if_neg h9, if_neg h10, if_neg h11]; rfl⟩)))))))))))
theorem wtok_le (w : Int64) : ∃ j : Nat, j < 15 ∧ wtok w = nI j := by
  rcases wtok_c w with ⟨h, e⟩ | ⟨h, e⟩ | ⟨h, e⟩ | ⟨h, e⟩ | ⟨h, e⟩ | ⟨h, e⟩ | ⟨h, e⟩ | ⟨h, e⟩ | ⟨h, e⟩ | ⟨h, e⟩ | ⟨h, e⟩ | ⟨h, e⟩ | ⟨h, e⟩
  · exact ⟨0, by decide, e⟩
  · exact ⟨1, by decide, e⟩
  · exact ⟨2, by decide, e⟩
  · exact ⟨3, by decide, e⟩
  · exact ⟨4, by decide, e⟩
  · exact ⟨5, by decide, e⟩
  · exact ⟨6, by decide, e⟩
  · exact ⟨7, by decide, e⟩
  · exact ⟨8, by decide, e⟩
  · exact ⟨9, by decide, e⟩
  · exact ⟨10, by decide, e⟩
  · exact ⟨11, by decide, e⟩
  · exact ⟨14, by decide, e⟩
theorem ct0 {T : Tk} (h : T.1 = 0) : ctok T = 13 := by unfold ctok; rw [if_pos h]
theorem ct1 {T : Tk} (h : T.1 = 1) : ctok T = wtok T.2.2.1 := by unfold ctok; rw [if_neg (by rw [h]; decide), if_pos h]
theorem ct2 {T : Tk} (h : T.1 = 2) : ctok T = 12 := by unfold ctok; rw [if_neg (by rw [h]; decide), if_neg (by rw [h]; decide), if_pos h]
theorem ct3' {T : Tk} (h : T.1 = 3) : ctok T = T.2.2.1.toInt32 := by unfold ctok; rw [if_neg (by rw [h]; decide), if_neg (by rw [h]; decide), if_neg (by rw [h]; decide), if_pos h]
theorem ct4 {T : Tk} (h : T.1 = 4) : ctok T = 14 := by unfold ctok; rw [if_neg (by rw [h]; decide), if_neg (by rw [h]; decide), if_neg (by rw [h]; decide), if_neg (by rw [h]; decide)]
theorem sg_lo : ∀ j, j < 15 → isSg (nI j) = false := by decide
theorem ct_sg {T : Tk} (h : TkOk T) {c : Int32} (hc : isSg c = true) : ctok T = c ↔ T.1 = 3 ∧ T.2.2.1 = c.toInt64 := by
  have lo : ∀ j, j < 15 → nI j ≠ c := fun j hj e => by have := sg_lo j hj; rw [e, hc] at this; cases this
  rcases h with h | h | h | ⟨h, d, hd, e⟩ | h
  · rw [ct0 h]; exact ⟨fun z => absurd z (lo 13 (by decide)), fun z => by rw [h] at z; exact absurd z.1 (by decide)⟩
  · rw [ct1 h]
    obtain ⟨j, hj, e⟩ := wtok_le T.2.2.1
    rw [e]; exact ⟨fun z => absurd z (lo j hj), fun z => by rw [h] at z; exact absurd z.1 (by decide)⟩
  · rw [ct2 h]; exact ⟨fun z => absurd z (lo 12 (by decide)), fun z => by rw [h] at z; exact absurd z.1 (by decide)⟩
  · rw [ct3' h, e, Int32.toInt32_toInt64]
    exact ⟨fun z => ⟨h, by rw [z]⟩, fun z => by have := congrArg Int64.toInt32 z.2; rwa [Int32.toInt32_toInt64, Int32.toInt32_toInt64] at this⟩
  · rw [ct4 h]; exact ⟨fun z => absurd z (lo 14 (by decide)), fun z => by rw [h] at z; exact absurd z.1 (by decide)⟩
theorem ct_lo {T : Tk} (h : TkOk T) {k : Nat} (hk : k < 12) : ctok T = nI k ↔ T.1 = 1 ∧ wtok T.2.2.1 = nI k := by
  have h14 : ∀ j, j < 12 → ¬ (12 : Int32) = nI j ∧ ¬ (13 : Int32) = nI j ∧ ¬ (14 : Int32) = nI j := by decide
  obtain ⟨n2, n3, n4⟩ := h14 k hk
  rcases h with h | h | h | ⟨h, d, hd, e⟩ | h
  · rw [ct0 h]; exact ⟨fun z => absurd z n3, fun z => by rw [h] at z; exact absurd z.1 (by decide)⟩
  · rw [ct1 h]; exact ⟨fun z => ⟨h, z⟩, fun z => z.2⟩
  · rw [ct2 h]; exact ⟨fun z => absurd z n2, fun z => by rw [h] at z; exact absurd z.1 (by decide)⟩
  · rw [ct3' h, e, Int32.toInt32_toInt64]
    exact ⟨fun z => by have := sg_lo k (by omega); rw [← z, hd] at this; exact Bool.noConfusion this, fun z => by rw [h] at z; exact absurd z.1 (by decide)⟩
  · rw [ct4 h]; exact ⟨fun z => absurd z n4, fun z => by rw [h] at z; exact absurd z.1 (by decide)⟩
theorem ct_12 {T : Tk} (h : TkOk T) : ctok T = 12 ↔ T.1 = 2 := by
  rcases h with h | h | h | ⟨h, d, hd, e⟩ | h
  · rw [ct0 h, h]; decide
  · rw [ct1 h, h]
    refine ⟨fun z => ?_, fun z => absurd z (by decide)⟩
    obtain ⟨j, hj, e⟩ := wtok_le T.2.2.1
    rcases wtok_c T.2.2.1 with ⟨-, e'⟩ | ⟨-, e'⟩ | ⟨-, e'⟩ | ⟨-, e'⟩ | ⟨-, e'⟩ | ⟨-, e'⟩ | ⟨-, e'⟩ | ⟨-, e'⟩ | ⟨-, e'⟩ | ⟨-, e'⟩ | ⟨-, e'⟩ | ⟨-, e'⟩ | ⟨-, e'⟩ <;> exact absurd (e'.symm.trans z) (by decide)
  · rw [ct2 h, h]; decide
  · rw [ct3' h, e, Int32.toInt32_toInt64]
    exact ⟨fun z => by have := sg_lo 12 (by decide); rw [show nI 12 = d from z.symm, hd] at this; exact Bool.noConfusion this, fun z => by rw [h] at z; exact absurd z (by decide)⟩
  · rw [ct4 h, h]; decide
theorem ct_13 {T : Tk} (h : TkOk T) : ctok T = 13 ↔ T.1 = 0 := by
  rcases h with h | h | h | ⟨h, d, hd, e⟩ | h
  · rw [ct0 h, h]; decide
  · rw [ct1 h, h]
    refine ⟨fun z => ?_, fun z => absurd z (by decide)⟩
    obtain ⟨j, hj, e⟩ := wtok_le T.2.2.1
    rcases wtok_c T.2.2.1 with ⟨-, e'⟩ | ⟨-, e'⟩ | ⟨-, e'⟩ | ⟨-, e'⟩ | ⟨-, e'⟩ | ⟨-, e'⟩ | ⟨-, e'⟩ | ⟨-, e'⟩ | ⟨-, e'⟩ | ⟨-, e'⟩ | ⟨-, e'⟩ | ⟨-, e'⟩ | ⟨-, e'⟩ <;> exact absurd (e'.symm.trans z) (by decide)
  · rw [ct2 h, h]; decide
  · rw [ct3' h, e, Int32.toInt32_toInt64]
    exact ⟨fun z => by have := sg_lo 13 (by decide); rw [show nI 13 = d from z.symm, hd] at this; exact Bool.noConfusion this, fun z => by rw [h] at z; exact absurd z (by decide)⟩
  · rw [ct4 h, h]; decide
theorem wtok_9 (w : Int64) : wtok w = nI 9 ↔ w = 423 := by
  rcases wtok_c w with ⟨h, e⟩ | ⟨h, e⟩ | ⟨h, e⟩ | ⟨h, e⟩ | ⟨h, e⟩ | ⟨h, e⟩ | ⟨h, e⟩ | ⟨h, e⟩ | ⟨h, e⟩ | ⟨h, e⟩ | ⟨h, e⟩ | ⟨h, e⟩ | ⟨h, e⟩
  · rw [e, h]; exact ⟨fun z => absurd z (by decide), fun z => absurd z (by decide)⟩
  · rw [e, h]; exact ⟨fun z => absurd z (by decide), fun z => absurd z (by decide)⟩
  · rw [e, h]; exact ⟨fun z => absurd z (by decide), fun z => absurd z (by decide)⟩
  · rw [e, h]; exact ⟨fun z => absurd z (by decide), fun z => absurd z (by decide)⟩
  · rw [e, h]; exact ⟨fun z => absurd z (by decide), fun z => absurd z (by decide)⟩
  · rw [e, h]; exact ⟨fun z => absurd z (by decide), fun z => absurd z (by decide)⟩
  · rw [e, h]; exact ⟨fun z => absurd z (by decide), fun z => absurd z (by decide)⟩
  · rw [e, h]; exact ⟨fun z => absurd z (by decide), fun z => absurd z (by decide)⟩
  · rw [e, h]; exact ⟨fun z => absurd z (by decide), fun z => absurd z (by decide)⟩
  · exact ⟨fun _ => h, fun _ => e⟩
  · rw [e, h]; exact ⟨fun z => absurd z (by decide), fun z => absurd z (by decide)⟩
  · rw [e, h]; exact ⟨fun z => absurd z (by decide), fun z => absurd z (by decide)⟩
  · rw [e]; exact ⟨fun z => absurd z (by decide), fun z => absurd z h.2.2.2.2.2.2.2.2.2.1⟩
theorem wtok_10 (w : Int64) : wtok w = nI 10 ↔ w = 1111 := by
  rcases wtok_c w with ⟨h, e⟩ | ⟨h, e⟩ | ⟨h, e⟩ | ⟨h, e⟩ | ⟨h, e⟩ | ⟨h, e⟩ | ⟨h, e⟩ | ⟨h, e⟩ | ⟨h, e⟩ | ⟨h, e⟩ | ⟨h, e⟩ | ⟨h, e⟩ | ⟨h, e⟩
  · rw [e, h]; exact ⟨fun z => absurd z (by decide), fun z => absurd z (by decide)⟩
  · rw [e, h]; exact ⟨fun z => absurd z (by decide), fun z => absurd z (by decide)⟩
  · rw [e, h]; exact ⟨fun z => absurd z (by decide), fun z => absurd z (by decide)⟩
  · rw [e, h]; exact ⟨fun z => absurd z (by decide), fun z => absurd z (by decide)⟩
  · rw [e, h]; exact ⟨fun z => absurd z (by decide), fun z => absurd z (by decide)⟩
  · rw [e, h]; exact ⟨fun z => absurd z (by decide), fun z => absurd z (by decide)⟩
  · rw [e, h]; exact ⟨fun z => absurd z (by decide), fun z => absurd z (by decide)⟩
  · rw [e, h]; exact ⟨fun z => absurd z (by decide), fun z => absurd z (by decide)⟩
  · rw [e, h]; exact ⟨fun z => absurd z (by decide), fun z => absurd z (by decide)⟩
  · rw [e, h]; exact ⟨fun z => absurd z (by decide), fun z => absurd z (by decide)⟩
  · exact ⟨fun _ => h, fun _ => e⟩
  · rw [e, h]; exact ⟨fun z => absurd z (by decide), fun z => absurd z (by decide)⟩
  · rw [e]; exact ⟨fun z => absurd z (by decide), fun z => absurd z h.2.2.2.2.2.2.2.2.2.2.1⟩
theorem wtok_11 (w : Int64) : wtok w = nI 11 ↔ w = 10631 := by
  rcases wtok_c w with ⟨h, e⟩ | ⟨h, e⟩ | ⟨h, e⟩ | ⟨h, e⟩ | ⟨h, e⟩ | ⟨h, e⟩ | ⟨h, e⟩ | ⟨h, e⟩ | ⟨h, e⟩ | ⟨h, e⟩ | ⟨h, e⟩ | ⟨h, e⟩ | ⟨h, e⟩
  · rw [e, h]; exact ⟨fun z => absurd z (by decide), fun z => absurd z (by decide)⟩
  · rw [e, h]; exact ⟨fun z => absurd z (by decide), fun z => absurd z (by decide)⟩
  · rw [e, h]; exact ⟨fun z => absurd z (by decide), fun z => absurd z (by decide)⟩
  · rw [e, h]; exact ⟨fun z => absurd z (by decide), fun z => absurd z (by decide)⟩
  · rw [e, h]; exact ⟨fun z => absurd z (by decide), fun z => absurd z (by decide)⟩
  · rw [e, h]; exact ⟨fun z => absurd z (by decide), fun z => absurd z (by decide)⟩
  · rw [e, h]; exact ⟨fun z => absurd z (by decide), fun z => absurd z (by decide)⟩
  · rw [e, h]; exact ⟨fun z => absurd z (by decide), fun z => absurd z (by decide)⟩
  · rw [e, h]; exact ⟨fun z => absurd z (by decide), fun z => absurd z (by decide)⟩
  · rw [e, h]; exact ⟨fun z => absurd z (by decide), fun z => absurd z (by decide)⟩
  · rw [e, h]; exact ⟨fun z => absurd z (by decide), fun z => absurd z (by decide)⟩
  · exact ⟨fun _ => h, fun _ => e⟩
  · rw [e]; exact ⟨fun z => absurd z (by decide), fun z => absurd z h.2.2.2.2.2.2.2.2.2.2.2⟩
theorem wtok_6 (w : Int64) : wtok w = nI 6 ↔ w = 2436392 := by
  rcases wtok_c w with ⟨h, e⟩ | ⟨h, e⟩ | ⟨h, e⟩ | ⟨h, e⟩ | ⟨h, e⟩ | ⟨h, e⟩ | ⟨h, e⟩ | ⟨h, e⟩ | ⟨h, e⟩ | ⟨h, e⟩ | ⟨h, e⟩ | ⟨h, e⟩ | ⟨h, e⟩
  · rw [e, h]; exact ⟨fun z => absurd z (by decide), fun z => absurd z (by decide)⟩
  · rw [e, h]; exact ⟨fun z => absurd z (by decide), fun z => absurd z (by decide)⟩
  · rw [e, h]; exact ⟨fun z => absurd z (by decide), fun z => absurd z (by decide)⟩
  · rw [e, h]; exact ⟨fun z => absurd z (by decide), fun z => absurd z (by decide)⟩
  · rw [e, h]; exact ⟨fun z => absurd z (by decide), fun z => absurd z (by decide)⟩
  · rw [e, h]; exact ⟨fun z => absurd z (by decide), fun z => absurd z (by decide)⟩
  · exact ⟨fun _ => h, fun _ => e⟩
  · rw [e, h]; exact ⟨fun z => absurd z (by decide), fun z => absurd z (by decide)⟩
  · rw [e, h]; exact ⟨fun z => absurd z (by decide), fun z => absurd z (by decide)⟩
  · rw [e, h]; exact ⟨fun z => absurd z (by decide), fun z => absurd z (by decide)⟩
  · rw [e, h]; exact ⟨fun z => absurd z (by decide), fun z => absurd z (by decide)⟩
  · rw [e, h]; exact ⟨fun z => absurd z (by decide), fun z => absurd z (by decide)⟩
  · rw [e]; exact ⟨fun z => absurd z (by decide), fun z => absurd z h.2.2.2.2.2.2.1⟩
theorem wtok_7 (w : Int64) : wtok w = nI 7 ↔ w = 8863997 := by
  rcases wtok_c w with ⟨h, e⟩ | ⟨h, e⟩ | ⟨h, e⟩ | ⟨h, e⟩ | ⟨h, e⟩ | ⟨h, e⟩ | ⟨h, e⟩ | ⟨h, e⟩ | ⟨h, e⟩ | ⟨h, e⟩ | ⟨h, e⟩ | ⟨h, e⟩ | ⟨h, e⟩
  · rw [e, h]; exact ⟨fun z => absurd z (by decide), fun z => absurd z (by decide)⟩
  · rw [e, h]; exact ⟨fun z => absurd z (by decide), fun z => absurd z (by decide)⟩
  · rw [e, h]; exact ⟨fun z => absurd z (by decide), fun z => absurd z (by decide)⟩
  · rw [e, h]; exact ⟨fun z => absurd z (by decide), fun z => absurd z (by decide)⟩
  · rw [e, h]; exact ⟨fun z => absurd z (by decide), fun z => absurd z (by decide)⟩
  · rw [e, h]; exact ⟨fun z => absurd z (by decide), fun z => absurd z (by decide)⟩
  · rw [e, h]; exact ⟨fun z => absurd z (by decide), fun z => absurd z (by decide)⟩
  · exact ⟨fun _ => h, fun _ => e⟩
  · rw [e, h]; exact ⟨fun z => absurd z (by decide), fun z => absurd z (by decide)⟩
  · rw [e, h]; exact ⟨fun z => absurd z (by decide), fun z => absurd z (by decide)⟩
  · rw [e, h]; exact ⟨fun z => absurd z (by decide), fun z => absurd z (by decide)⟩
  · rw [e, h]; exact ⟨fun z => absurd z (by decide), fun z => absurd z (by decide)⟩
  · rw [e]; exact ⟨fun z => absurd z (by decide), fun z => absurd z h.2.2.2.2.2.2.2.1⟩
theorem wtok_8 (w : Int64) : wtok w = nI 8 ↔ w = 307058 := by
  rcases wtok_c w with ⟨h, e⟩ | ⟨h, e⟩ | ⟨h, e⟩ | ⟨h, e⟩ | ⟨h, e⟩ | ⟨h, e⟩ | ⟨h, e⟩ | ⟨h, e⟩ | ⟨h, e⟩ | ⟨h, e⟩ | ⟨h, e⟩ | ⟨h, e⟩ | ⟨h, e⟩
  · rw [e, h]; exact ⟨fun z => absurd z (by decide), fun z => absurd z (by decide)⟩
  · rw [e, h]; exact ⟨fun z => absurd z (by decide), fun z => absurd z (by decide)⟩
  · rw [e, h]; exact ⟨fun z => absurd z (by decide), fun z => absurd z (by decide)⟩
  · rw [e, h]; exact ⟨fun z => absurd z (by decide), fun z => absurd z (by decide)⟩
  · rw [e, h]; exact ⟨fun z => absurd z (by decide), fun z => absurd z (by decide)⟩
  · rw [e, h]; exact ⟨fun z => absurd z (by decide), fun z => absurd z (by decide)⟩
  · rw [e, h]; exact ⟨fun z => absurd z (by decide), fun z => absurd z (by decide)⟩
  · rw [e, h]; exact ⟨fun z => absurd z (by decide), fun z => absurd z (by decide)⟩
  · exact ⟨fun _ => h, fun _ => e⟩
  · rw [e, h]; exact ⟨fun z => absurd z (by decide), fun z => absurd z (by decide)⟩
  · rw [e, h]; exact ⟨fun z => absurd z (by decide), fun z => absurd z (by decide)⟩
  · rw [e, h]; exact ⟨fun z => absurd z (by decide), fun z => absurd z (by decide)⟩
  · rw [e]; exact ⟨fun z => absurd z (by decide), fun z => absurd z h.2.2.2.2.2.2.2.2.1⟩
theorem wtok_nm (w : Int64) : (∃ i, i < 6 ∧ nameIx w = some i ∧ wtok w = nI i) ∨ (nameIx w = none ∧ ∃ j, 6 ≤ j ∧ j < 15 ∧ wtok w = nI j) := by
  rcases wtok_c w with ⟨h, e⟩ | ⟨h, e⟩ | ⟨h, e⟩ | ⟨h, e⟩ | ⟨h, e⟩ | ⟨h, e⟩ | ⟨h, e⟩ | ⟨h, e⟩ | ⟨h, e⟩ | ⟨h, e⟩ | ⟨h, e⟩ | ⟨h, e⟩ | ⟨h, e⟩
  · exact Or.inl ⟨0, by decide, by rw [h]; rfl, e⟩
  · exact Or.inl ⟨1, by decide, by rw [h]; rfl, e⟩
  · exact Or.inl ⟨2, by decide, by rw [h]; rfl, e⟩
  · exact Or.inl ⟨3, by decide, by rw [h]; rfl, e⟩
  · exact Or.inl ⟨4, by decide, by rw [h]; rfl, e⟩
  · exact Or.inl ⟨5, by decide, by rw [h]; rfl, e⟩
  · exact Or.inr ⟨by rw [h]; rfl, 6, by decide, by decide, e⟩
  · exact Or.inr ⟨by rw [h]; rfl, 7, by decide, by decide, e⟩
  · exact Or.inr ⟨by rw [h]; rfl, 8, by decide, by decide, e⟩
  · exact Or.inr ⟨by rw [h]; rfl, 9, by decide, by decide, e⟩
  · exact Or.inr ⟨by rw [h]; rfl, 10, by decide, by decide, e⟩
  · exact Or.inr ⟨by rw [h]; rfl, 11, by decide, by decide, e⟩
  · exact Or.inr ⟨by unfold nameIx; rw [if_neg h.1, if_neg h.2.1, if_neg h.2.2.1, if_neg h.2.2.2.1, if_neg h.2.2.2.2.1, if_neg h.2.2.2.2.2.1], 14, by decide, by decide, e⟩
/-- alike but for what reading uses -/
def SmR (σ0 σ : XSt) : Prop := (∀ c i k, ¬ (c = 4 ∧ i = 0 ∧ 3 ≤ k) → σ.1 c i k = σ0.1 c i k) ∧ ∀ c i, c ≠ 29 → σ.2 c i = σ0.2 c i
theorem SmR.rf (σ : XSt) : SmR σ σ := ⟨fun _ _ _ _ => rfl, fun _ _ _ => rfl⟩
theorem SmR.xp {σ0 σ : XSt} (h : SmR σ0 σ) {k : Nat} (hk : 3 ≤ k) (x : Int32) : SmR σ0 (xp σ 4 0 k x) :=
  ⟨fun c i j q => by rw [xp_o (fun z => q ⟨z.1, z.2.1, by rw [z.2.2]; exact hk⟩)]; exact h.1 c i j q, h.2⟩
theorem SmR.xa {σ0 σ : XSt} (h : SmR σ0 σ) (i k : Nat) (x : Int32) : SmR σ0 (xa σ 29 i k x) :=
  ⟨h.1, fun c j q => by
    show up3 σ.2 29 i k x c j = _
    rw [up3_other _ _ _ (fun z => q z.1)]
    exact h.2 c j q⟩
theorem SmR.xn {σ0 σ : XSt} (h : SmR σ0 σ) (a b c d : Int32) : SmR σ0 (xnS σ a b c d) :=
  ⟨fun e i k q => by
    show (if _ then _ else _) = _
    rw [if_neg (fun z => q ⟨z.1, z.2.1, by omega⟩), if_neg (fun z => q ⟨z.1, z.2.1, by omega⟩), if_neg (fun z => q ⟨z.1, z.2.1, by omega⟩), if_neg (fun z => q ⟨z.1, z.2.1, by omega⟩)]
    exact h.1 e i k q, h.2⟩
theorem XT.sm {σ0 σ : XSt} {t : TB} (h : XT σ0 t) (k : SmR σ0 σ) : XT σ t := by
  obtain ⟨a, b, c, d⟩ := h
  refine ⟨by rw [k.1 4 0 2 (by omega)]; exact a, b, ?_, ?_⟩
  · rw [k.2 28 0 (by decide)]; exact c
  · rw [k.2 28 0 (by decide)]; exact d
def OkX (t : TB) (σ0 : XSt) (cs : List Int32) (p : Nat) (σ : XSt) : Prop :=
  (p ≤ t.2 ∧ σ.1 4 0 5 = ctok (tk t p) ∧ σ.1 4 0 6 = nI (tk t p).2.1 ∧ (∃ q : Nat, q ≤ 160 ∧ σ.1 4 0 4 = nI q ∧ ((tk t p).1 = 0 ∨ (tk t p).1 = 1 ∨ (tk t p).1 = 2 ∨ (tk t p).1 = 3 → q = (tk t p).2.2.2)) ∧ ((tk t p).1 = 2 → σ.1 4 0 7 = (tk t p).2.2.1.toInt32)) ∧
  σ.1 4 0 3 = -1 ∧ (cs.length ≤ 160 ∧ σ.1 4 0 8 = nI cs.length) ∧ (∀ i, i < cs.length → σ.2 29 0 i = cs.getD i 0) ∧ SmR σ0 σ
def ErX (σ0 : XSt) (y : Nat) (σ : XSt) : Prop := (y ≤ 160 ∧ σ.1 4 0 3 = nI y) ∧ σ.1 4 0 5 = 14 ∧ Ct (σ.1 4 0 8) 160 ∧ SmR σ0 σ
abbrev Sx2 : Type := Except Nat (List Int32 × Nat)
def StX (t : TB) (σ0 : XSt) (x : Sx2) (σ : XSt) : Prop := match x with
  | .ok a => a.1.length ≤ a.2 ∧ OkX t σ0 a.1 a.2 σ
  | .error y => ErX σ0 y σ
def fin (cs : List Int32) (r : Rs) : Sx2 := match r with
  | .error y => .error y
  | .ok r => .ok (cs ++ r.1, r.2.2)
def bd (x : Sx2) (f : Nat → Rs) : Sx2 := match x with
  | .error y => .error y
  | .ok a => fin a.1 (f a.2)
theorem OkX.place {t : TB} {σ0 σ : XSt} {cs : List Int32} {p : Nat} (h : OkX t σ0 cs p σ) : Ct (σ.1 4 0 4) 160 := by
  obtain ⟨⟨-, -, -, ⟨q, hq, e, -⟩, -⟩, -⟩ := h
  exact ⟨q, hq, e⟩
theorem OkX.size {t : TB} {σ0 σ : XSt} {cs : List Int32} {p : Nat} (hT : XT σ0 t) (h : OkX t σ0 cs p σ) : Ct (σ.1 4 0 2) 160 := by
  have hT' := hT.sm h.2.2.2.2
  exact ⟨t.2, hT'.2.1, hT'.1⟩
theorem OkX.cs {t : TB} {σ0 σ : XSt} {cs : List Int32} {p : Nat} (h : OkX t σ0 cs p σ) : Ct (σ.1 4 0 8) 160 := ⟨_, h.2.2.1.1, h.2.2.1.2⟩
theorem ok_next {S : XSh} {t : TB} {σ0 σ : XSt} {cs : List Int32} {p : Nat} (hT : XT σ0 t) (h : OkX t σ0 cs p σ) (hk : (tk t p).1 = 1 ∨ (tk t p).1 = 2 ∨ (tk t p).1 = 3) : OkX t σ0 cs (tk t p).2.2.2 (f_X4_next S σ) := by
  obtain ⟨⟨h1, h2, h3, ⟨q, hq, h4, h5⟩, h6⟩, h7, h8, h9, h10⟩ := h
  have ep := h5 (Or.inr hk)
  subst ep
  obtain ⟨q', nb, e, hq', g1, g2⟩ := nx_eq (S := S) (hT.sm h10) h4 (tk_le t p h1).2.1
  rw [e]
  refine ⟨⟨(tk_le t p h1).2.1, rfl, rfl, ⟨q', hq', rfl, g1⟩, g2⟩, h7, h8, h9, h10.xn _ _ _ _⟩
theorem ok_emit {S : XSh} {t : TB} {σ0 σ : XSt} {cs : List Int32} {p : Nat} (h : OkX t σ0 cs p σ) (hl : cs.length < 160) (v : Int32) : OkX t σ0 (cs ++ [v]) p (f_X4_emit S σ v) := by
  obtain ⟨h0, h7, h8, h9, h10⟩ := h
  unfold f_X4_emit
  rw [h8.2, if_neg (fun z => by have := (nI_leI (a := 160) (by omega) (by omega)).mp z; omega), nI_clamp (by omega), nI_1]
  refine ⟨h0, h7, ⟨by rw [List.length_append]; show cs.length + 1 ≤ 160; omega, ?_⟩, fun i hi => ?_, (h10.xa _ _ _).xp (by omega) _⟩
  · rw [xp_s, List.length_append]; rfl
  · show up3 σ.2 29 0 cs.length v 29 0 i = _
    rw [up3_self]
    unfold upd
    rw [List.length_append] at hi
    have hi' : i < cs.length + 1 := hi
    by_cases z : i = cs.length
    · rw [if_pos z, z, List.getD_eq_getElem?_getD, List.getElem?_append_right (Nat.le_refl _)]
      simp
    · rw [if_neg z, h9 i (by omega), List.getD_eq_getElem?_getD, List.getD_eq_getElem?_getD, List.getElem?_append_left (by omega)]
theorem er_emit {S : XSh} {σ0 σ : XSt} {y : Nat} (h : ErX σ0 y σ) (v : Int32) : ErX σ0 y (f_X4_emit S σ v) := by
  obtain ⟨h1, h2, h3, h4⟩ := h
  unfold f_X4_emit
  by_cases c : (160 : Int32) ≤ σ.1 4 0 8
  · rw [if_pos c]; exact ⟨h1, h2, h3, h4⟩
  · rw [if_neg c]
    refine ⟨h1, h2, ?_, (h4.xa _ _ _).xp (by omega) _⟩
    rw [xp_s]
    exact (Ct.up (by decide) ct160 h3 c).2.1
theorem ok_fail {S : XSh} {t : TB} {σ0 σ : XSt} {cs : List Int32} {p : Nat} (ht : t.2 ≤ 160) (h : OkX t σ0 cs p σ) : ErX σ0 (tk t p).2.1 (f_X4_fail S σ) := by
  obtain ⟨⟨h1, h2, h3, h4, h6⟩, h7, h8, h9, h10⟩ := h
  have hl := (tk_le t p h1).1
  unfold f_X4_fail
  rw [if_pos h7, h3]
  refine ⟨⟨by omega, ?_⟩, xp_s _ _ _ _ _, ?_, (h10.xp (by omega) _).xp (by omega) _⟩
  · rw [xp_o (by decide), xp_s]
  · rw [xp_o (by decide), xp_o (by decide)]; exact ⟨_, h8.1, h8.2⟩
theorem er_failX {S : XSh} {σ0 σ : XSt} {y : Nat} (h : ErX σ0 y σ) : ErX σ0 y (f_X4_fail S σ) := by
  obtain ⟨⟨h0, h1⟩, h2, h3, h4⟩ := h
  unfold f_X4_fail
  rw [if_neg (by rw [h1]; exact fun z => absurd (show nI y < 0 by rw [z]; decide) (nI_pos (by omega)))]
  refine ⟨⟨h0, ?_⟩, xp_s _ _ _ _ _, ?_, h4.xp (by omega) _⟩
  · rw [xp_o (by decide)]; exact h1
  · rw [xp_o (by decide)]; exact h3
