/-! the class is made: its heap -/
theorem nd_inj : ∀ {l : List Nat} {i j a : Nat}, l.Nodup → l[i]? = some a → l[j]? = some a → i = j
  | [], _, _, _, _, h, _ => by simp at h
  | b :: l, 0, 0, _, _, _, _ => rfl
  | b :: l, 0, j + 1, a, hn, h1, h2 => by
    have e1 : b = a := by simpa using h1
    have h2' : l[j]? = some a := by simpa using h2
    subst e1
    exact absurd (List.mem_of_getElem? h2') (List.nodup_cons.mp hn).1
  | b :: l, i + 1, 0, a, hn, h1, h2 => by
    have e1 : b = a := by simpa using h2
    have h2' : l[i]? = some a := by simpa using h1
    subst e1
    exact absurd (List.mem_of_getElem? h2') (List.nodup_cons.mp hn).1
  | b :: l, i + 1, j + 1, a, hn, h1, h2 => by
    have h1' : l[i]? = some a := by simpa using h1
    have h2' : l[j]? = some a := by simpa using h2
    rw [nd_inj (List.nodup_cons.mp hn).2 h1' h2']
theorem kA_out {h0 : hH} {a : Nat} : ∀ {L : KL}, a ∉ L.map (fun p => p.1) → kHp h0 L a = h0 a
  | [], _ => rfl
  | p :: L, h => by
    rw [List.map_cons, List.mem_cons] at h
    show hu (kHp h0 L) p.1 p.2 a = h0 a
    rw [hu_ne (fun z => h (Or.inl z)), kA_out (fun z => h (Or.inr z))]
theorem kA_xH {h0 : hH} {L : KL} {am : XAd} {S : XSh} {σ : XSt} {N : List (Nat × Nat)} (hO : KO h0 L) (hL : L = N.map (fun n => (am n.1 n.2, xE am S σ n.1 n.2))) (hN : ∀ c i, i < lim S c ↔ (c, i) ∈ N) : XOk am S ∧ kHp h0 L = xH h0 am S σ ∧ ∀ c i, i < lim S c → h0 (am c i) = none := by
  have at_ : ∀ c i, i < lim S c → ∃ k : Nat, N[k]? = some (c, i) ∧ L[k]? = some (am c i, xE am S σ c i) ∧ (L.map (fun p => p.1))[k]? = some (am c i) := fun c i h => by
    obtain ⟨k, hk⟩ := List.getElem?_of_mem ((hN c i).mp h)
    have h2 : L[k]? = some (am c i, xE am S σ c i) := by rw [hL, List.getElem?_map, hk]; rfl
    exact ⟨k, hk, h2, by rw [List.getElem?_map, h2]; rfl⟩
  have ok : XOk am S := fun c i c' i' h h' e => by
    obtain ⟨k, a1, a2, a3⟩ := at_ c i h
    obtain ⟨k', b1, b2, b3⟩ := at_ c' i' h'
    rw [← e] at b3
    have := nd_inj hO.1 a3 b3
    subst this
    rw [a1] at b1
    have e2 := Option.some.inj b1
    exact ⟨congrArg Prod.fst e2, congrArg Prod.snd e2⟩
  refine ⟨ok, xH_ext ok (fun c i h => ?_) (fun a h => ?_), fun c i h => ?_⟩
  · obtain ⟨k, a1, a2, a3⟩ := at_ c i h
    exact kA_at hO a2
  · refine kA_out (fun z => ?_)
    rw [hL, List.map_map] at z
    obtain ⟨n, hn, e⟩ := List.mem_map.mp z
    exact h n.1 n.2 ((hN n.1 n.2).mpr hn) e
  · obtain ⟨k, a1, a2, a3⟩ := at_ c i h
    exact hO.2 _ (List.mem_of_getElem? a3)
def xS0 : XSh := fun _ _ => 0
def xI0 : XSt := (fun c _ k => if (c = 4 ∧ k = 3) ∨ (c = 2 ∧ k = 4) ∨ (c = 6 ∧ k = 1) then -1 else 0, fun c _ => if c = 21 then fillF 12 99 zF else if c = 22 then fillF 3 100 zF else zF)
def kNm : List (Nat × Nat) := [(9, 0), (14, 0), (30, 3), (6, 3), (30, 2), (6, 2), (30, 1), (6, 1), (30, 0), (6, 0), (13, 0), (7, 5), (7, 4), (7, 3), (7, 2), (7, 1), (7, 0), (18, 0), (17, 0), (16, 0), (15, 0), (22, 1), (21, 1), (20, 1), (0, 1), (31, 0), (2, 0), (29, 0), (28, 0), (4, 0), (27, 0), (26, 0), (25, 0), (24, 0), (23, 0), (3, 0), (22, 0), (21, 0), (20, 0), (0, 0), (12, 0), (11, 0), (10, 0)]
theorem kN_lim : ∀ c i, i < lim xS0 c ↔ (c, i) ∈ kNm := by
  have h1 : ∀ c, c < 33 → ∀ i, i < 8 → (i < lim xS0 c ↔ (c, i) ∈ kNm) := by decide +kernel
  have h2 : ∀ n ∈ kNm, n.1 < 33 ∧ n.2 < 8 := by decide +kernel
  have h3 : ∀ c, c < 33 → lim xS0 c ≤ 8 := by decide +kernel
  intro c i
  by_cases hc : c < 33
  · by_cases hi : i < 8
    · exact h1 c hc i hi
    · exact ⟨fun z => by have := h3 c hc; omega, fun z => absurd (h2 _ z).2 hi⟩
  · refine ⟨fun z => ?_, fun z => absurd (h2 _ z).1 hc⟩
    have e : lim xS0 c = 0 := by
      unfold lim
      split <;> first | rfl | omega
    rw [e] at z
    exact absurd z (Nat.not_lt_zero _)
def kLs (am : XAd) : KL := [(am 9 0, .inr (9, [.ref (am 10 0), .int 0, .ref (am 11 0), .int 0, .ref (am 12 0), .int 0, .int 0, .ref (am 0 0), .ref (am 3 0), .ref (am 4 0), .ref (am 13 0), .ref (am 14 0), .ref (am 2 0), .ref (am 15 0), .ref (am 16 0), .ref (am 17 0), .ref (am 18 0)])), (am 14 0, .inl (7, 4, .inr (.inr (.inr (.inr (xR am 6 4)))))), (am 30 3, .inl (0, 40, .inl zF)), (am 6 3, .inr (6, [.ref (am 30 3), .int (-1), .int 0])), (am 30 2, .inl (0, 40, .inl zF)), (am 6 2, .inr (6, [.ref (am 30 2), .int (-1), .int 0])), (am 30 1, .inl (0, 40, .inl zF)), (am 6 1, .inr (6, [.ref (am 30 1), .int (-1), .int 0])), (am 30 0, .inl (0, 40, .inl zF)), (am 6 0, .inr (6, [.ref (am 30 0), .int (-1), .int 0])), (am 13 0, .inl (6, 6, .inr (.inr (.inr (.inr (xR am 7 6)))))), (am 7 5, .inr (7, [.int 0, .int 0, .int 0, .int 0, .int 0])), (am 7 4, .inr (7, [.int 0, .int 0, .int 0, .int 0, .int 0])), (am 7 3, .inr (7, [.int 0, .int 0, .int 0, .int 0, .int 0])), (am 7 2, .inr (7, [.int 0, .int 0, .int 0, .int 0, .int 0])), (am 7 1, .inr (7, [.int 0, .int 0, .int 0, .int 0, .int 0])), (am 7 0, .inr (7, [.int 0, .int 0, .int 0, .int 0, .int 0])), (am 18 0, .inl (0, 10, .inl zF)), (am 17 0, .inl (0, 10, .inl zF)), (am 16 0, .inl (0, 160, .inl zF)), (am 15 0, .inl (0, 6, .inl zF)), (am 22 1, .inl (0, 3, .inl (fillF 3 100 zF))), (am 21 1, .inl (0, 12, .inl (fillF 12 99 zF))), (am 20 1, .inl (0, 12, .inl zF)), (am 0 1, .inr (0, [.ref (am 20 1), .ref (am 21 1), .ref (am 22 1)])), (am 31 0, .inl (0, 8, .inl zF)), (am 2 0, .inr (2, [.ref (am 31 0), .ref (am 0 1), .int 0, .int 0, .int (-1)])), (am 29 0, .inl (0, 160, .inl zF)), (am 28 0, .inl (1, 160, .inl zF)), (am 4 0, .inr (4, [.ref (am 28 0), .ref (am 29 0), .int 0, .int (-1), .int 0, .int 0, .int 0, .int 0, .int 0])), (am 27 0, .inl (0, 40, .inl zF)), (am 26 0, .inl (0, 40, .inl zF)), (am 25 0, .inl (0, 40, .inl zF)), (am 24 0, .inl (0, 40, .inl zF)), (am 23 0, .inl (0, 40, .inl zF)), (am 3 0, .inr (3, [.ref (am 23 0), .ref (am 24 0), .ref (am 25 0), .ref (am 26 0), .ref (am 27 0), .int 0])), (am 22 0, .inl (0, 3, .inl (fillF 3 100 zF))), (am 21 0, .inl (0, 12, .inl (fillF 12 99 zF))), (am 20 0, .inl (0, 12, .inl zF)), (am 0 0, .inr (0, [.ref (am 20 0), .ref (am 21 0), .ref (am 22 0)])), (am 12 0, .inl (5, 6, .inr (.inr (.inr (.inr (xR am 5 0)))))), (am 11 0, .inl (4, 24, .inr (.inr (.inr (.inr (xR am 1 0)))))), (am 10 0, .inl (3, 8, .inr (.inr (.inr (.inr (xR am 8 0))))))]
set_option maxRecDepth 100000 in
set_option maxHeartbeats 2000000 in
theorem kL_is (am : XAd) : kLs am = kNm.map (fun n => (am n.1 n.2, xE am xS0 xI0 n.1 n.2)) := rfl

def amK (N : List (Nat × Nat)) (A : List Nat) : XAd := fun c i => match (N.zip A).find? (fun p => Nat.beq p.1.1 c && Nat.beq p.1.2 i) with
  | some p => p.2
  | none => 0
theorem xR_0 (am : XAd) (k : Nat) : (fun _ => none) = xR am k 0 := funext (fun j => (if_neg (Nat.not_lt_zero j)).symm)
theorem xR_6 (am : XAd) (a b c d e f : Nat) (k : Nat) (h0 : am k 0 = a) (h1 : am k 1 = b) (h2 : am k 2 = c) (h3 : am k 3 = d) (h4 : am k 4 = e) (h5 : am k 5 = f) : va_up (va_up (va_up (va_up (va_up (va_up (fun _ => none) 0 (some a)) 1 (some b)) 2 (some c)) 3 (some d)) 4 (some e)) 5 (some f) = xR am k 6 := by
  funext j
  have q : j = 0 ∨ j = 1 ∨ j = 2 ∨ j = 3 ∨ j = 4 ∨ j = 5 ∨ 6 ≤ j := by omega
  subst h0; subst h1; subst h2; subst h3; subst h4; subst h5
  unfold xR va_up
  rcases q with rfl | rfl | rfl | rfl | rfl | rfl | q
  · rfl
  · rfl
  · rfl
  · rfl
  · rfl
  · rfl
  · rw [if_neg (by omega), if_neg (by omega), if_neg (by omega), if_neg (by omega), if_neg (by omega), if_neg (by omega), if_neg (by omega)]
theorem xR_4 (am : XAd) (a b c d : Nat) (k : Nat) (h0 : am k 0 = a) (h1 : am k 1 = b) (h2 : am k 2 = c) (h3 : am k 3 = d) : va_up (va_up (va_up (va_up (fun _ => none) 0 (some a)) 1 (some b)) 2 (some c)) 3 (some d) = xR am k 4 := by
  funext j
  have q : j = 0 ∨ j = 1 ∨ j = 2 ∨ j = 3 ∨ 4 ≤ j := by omega
  subst h0; subst h1; subst h2; subst h3
  unfold xR va_up
  rcases q with rfl | rfl | rfl | rfl | q
  · rfl
  · rfl
  · rfl
  · rfl
  · rw [if_neg (by omega), if_neg (by omega), if_neg (by omega), if_neg (by omega), if_neg (by omega)]
theorem cons_cg {a a' : Nat × hE} {l l' : KL} (h1 : a = a') (h2 : l = l') : a :: l = a' :: l' := by rw [h1, h2]
theorem rf_cg {a a' t N : Nat} {f f' : Nat → Option Nat} (h1 : a = a') (h2 : f = f') : ((a, Sum.inl (t, N, Sum.inr (Sum.inr (Sum.inr (Sum.inr f))))) : Nat × hE) = (a', Sum.inl (t, N, Sum.inr (Sum.inr (Sum.inr (Sum.inr f'))))) := by rw [h1, h2]

set_option maxRecDepth 100000 in
set_option maxHeartbeats 2000000 in
theorem kL_at {q sh u3 s3 u2 s2 u1 s1 u0 s0 tg t5 t4 t3 t2 t1 t0 n18 n17 n16 n15 i4 i3 i2 i1 i0 im r1 r0 rd l4 l3 l2 l1 l0 lg b2 b1 b0 bk a12 a11 a10 : Nat} : ([(q, .inr (9, [.ref a10, .int 0, .ref a11, .int 0, .ref a12, .int 0, .int 0, .ref bk, .ref lg, .ref rd, .ref tg, .ref sh, .ref im, .ref n15, .ref n16, .ref n17, .ref n18])), (sh, .inl (7, 4, .inr (.inr (.inr (.inr (va_up (va_up (va_up (va_up (fun _ => none) 0 (some s0)) 1 (some s1)) 2 (some s2)) 3 (some s3))))))), (u3, .inl (0, 40, .inl zF)), (s3, .inr (6, [.ref u3, .int (-1), .int 0])), (u2, .inl (0, 40, .inl zF)), (s2, .inr (6, [.ref u2, .int (-1), .int 0])), (u1, .inl (0, 40, .inl zF)), (s1, .inr (6, [.ref u1, .int (-1), .int 0])), (u0, .inl (0, 40, .inl zF)), (s0, .inr (6, [.ref u0, .int (-1), .int 0])), (tg, .inl (6, 6, .inr (.inr (.inr (.inr (va_up (va_up (va_up (va_up (va_up (va_up (fun _ => none) 0 (some t0)) 1 (some t1)) 2 (some t2)) 3 (some t3)) 4 (some t4)) 5 (some t5))))))), (t5, .inr (7, [.int 0, .int 0, .int 0, .int 0, .int 0])), (t4, .inr (7, [.int 0, .int 0, .int 0, .int 0, .int 0])), (t3, .inr (7, [.int 0, .int 0, .int 0, .int 0, .int 0])), (t2, .inr (7, [.int 0, .int 0, .int 0, .int 0, .int 0])), (t1, .inr (7, [.int 0, .int 0, .int 0, .int 0, .int 0])), (t0, .inr (7, [.int 0, .int 0, .int 0, .int 0, .int 0])), (n18, .inl (0, 10, .inl zF)), (n17, .inl (0, 10, .inl zF)), (n16, .inl (0, 160, .inl zF)), (n15, .inl (0, 6, .inl zF)), (i4, .inl (0, 3, .inl (fillF 3 100 zF))), (i3, .inl (0, 12, .inl (fillF 12 99 zF))), (i2, .inl (0, 12, .inl zF)), (i1, .inr (0, [.ref i2, .ref i3, .ref i4])), (i0, .inl (0, 8, .inl zF)), (im, .inr (2, [.ref i0, .ref i1, .int 0, .int 0, .int (-1)])), (r1, .inl (0, 160, .inl zF)), (r0, .inl (1, 160, .inl zF)), (rd, .inr (4, [.ref r0, .ref r1, .int 0, .int (-1), .int 0, .int 0, .int 0, .int 0, .int 0])), (l4, .inl (0, 40, .inl zF)), (l3, .inl (0, 40, .inl zF)), (l2, .inl (0, 40, .inl zF)), (l1, .inl (0, 40, .inl zF)), (l0, .inl (0, 40, .inl zF)), (lg, .inr (3, [.ref l0, .ref l1, .ref l2, .ref l3, .ref l4, .int 0])), (b2, .inl (0, 3, .inl (fillF 3 100 zF))), (b1, .inl (0, 12, .inl (fillF 12 99 zF))), (b0, .inl (0, 12, .inl zF)), (bk, .inr (0, [.ref b0, .ref b1, .ref b2])), (a12, .inl (5, 6, .inr (.inr (.inr (.inr (fun _ => none)))))), (a11, .inl (4, 24, .inr (.inr (.inr (.inr (fun _ => none)))))), (a10, .inl (3, 8, .inr (.inr (.inr (.inr (fun _ => none))))))] : KL) = kLs (amK kNm [q, sh, u3, s3, u2, s2, u1, s1, u0, s0, tg, t5, t4, t3, t2, t1, t0, n18, n17, n16, n15, i4, i3, i2, i1, i0, im, r1, r0, rd, l4, l3, l2, l1, l0, lg, b2, b1, b0, bk, a12, a11, a10]) := cons_cg (rfl) (cons_cg (rf_cg rfl (xR_4 _ _ _ _ _ 6 rfl rfl rfl rfl)) (cons_cg (rfl) (cons_cg (rfl) (cons_cg (rfl) (cons_cg (rfl) (cons_cg (rfl) (cons_cg (rfl) (cons_cg (rfl) (cons_cg (rfl) (cons_cg (rf_cg rfl (xR_6 _ _ _ _ _ _ _ 7 rfl rfl rfl rfl rfl rfl)) (cons_cg (rfl) (cons_cg (rfl) (cons_cg (rfl) (cons_cg (rfl) (cons_cg (rfl) (cons_cg (rfl) (cons_cg (rfl) (cons_cg (rfl) (cons_cg (rfl) (cons_cg (rfl) (cons_cg (rfl) (cons_cg (rfl) (cons_cg (rfl) (cons_cg (rfl) (cons_cg (rfl) (cons_cg (rfl) (cons_cg (rfl) (cons_cg (rfl) (cons_cg (rfl) (cons_cg (rfl) (cons_cg (rfl) (cons_cg (rfl) (cons_cg (rfl) (cons_cg (rfl) (cons_cg (rfl) (cons_cg (rfl) (cons_cg (rfl) (cons_cg (rfl) (cons_cg (rfl) (cons_cg (rf_cg rfl (xR_0 _ _)) (cons_cg (rf_cg rfl (xR_0 _ _)) (cons_cg (rf_cg rfl (xR_0 _ _)) (rfl)))))))))))))))))))))))))))))))))))))))))))
