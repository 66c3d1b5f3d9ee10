/-! writers: what both keep alike -/
/-- alike in what the reference's reckonings of sales, labels, texts and tongues read -/
def Dv (τ τ' : MSt) : Prop := τ'.1 26 = τ.1 26 ∧ ∀ j, (j ≤ 2 ∨ (16 ≤ j ∧ j ≤ 25)) → τ'.2.2 j = τ.2.2 j
section DV
variable {τ τ' : MSt}
theorem dv_shows (h : Dv τ τ') (h10 : τ'.2.2 10 = τ.2.2 10) (b p : Int32) : f_X10_showsOf τ' b p = f_X10_showsOf τ b p := by
  unfold f_X10_showsOf
  rw [h.2 16 (by omega), h10, h.2 17 (by omega), h.2 19 (by omega)]
theorem dv_lastL (h : Dv τ τ') : ∀ (n : Nat) (a b c : Int32), f_X10_lastOf_L4 n τ' a b c = f_X10_lastOf_L4 n τ a b c
  | 0, _, _, _ => rfl
  | n + 1, a, b, c => by rw [f_X10_lastOf_L4, f_X10_lastOf_L4, h.2 21 (by omega), dv_lastL h n]
theorem dv_last (h : Dv τ τ') (a b : Int32) : f_X10_lastOf τ' a b = f_X10_lastOf τ a b := dv_lastL h _ _ _ _
theorem dv_gapL (h : Dv τ τ') : ∀ (n : Nat) (a b c : Int32), f_X10_gapOf_L4 n τ' a b c = f_X10_gapOf_L4 n τ a b c
  | 0, _, _, _ => rfl
  | n + 1, a, b, c => by rw [f_X10_gapOf_L4, f_X10_gapOf_L4]; simp only [h.1, h.2 21 (by omega), h.2 22 (by omega), h.2 23 (by omega), dv_last h, dv_gapL h n]
theorem dv_gap (h : Dv τ τ') (a : Int32) : f_X10_gapOf τ' a = f_X10_gapOf τ a := dv_gapL h _ _ _ _
theorem dv_owner (h : Dv τ τ') (a : Int32) : f_X10_ownerOf τ' a = f_X10_ownerOf τ a := by unfold f_X10_ownerOf; rw [h.1, dv_last h, h.2 23 (by omega)]
theorem dv_chainL (h : Dv τ τ') : ∀ (n : Nat) (a b c : Int32), f_X10_chain_L23 n τ' a b c = f_X10_chain_L23 n τ a b c
  | 0, _, _, _ => rfl
  | n + 1, a, b, c => by rw [f_X10_chain_L23, f_X10_chain_L23]; simp only [h.2 22 (by omega), h.2 23 (by omega), dv_last h, dv_chainL h n]
theorem dv_chn (h : Dv τ τ') (b : Nat) : chn τ' b = chn τ b := by unfold chn; rw [h.1, dv_last h, dv_chainL h]
theorem dv_lastY (h : Dv τ τ') (b : Nat) : lastY τ' b = lastY τ b := by unfold lastY; rw [h.1, dv_last h, h.2 25 (by omega)]
theorem dv_within (h : Dv τ τ') (a : Int32) : f_X10_withinOf τ' a = f_X10_withinOf τ a := by unfold f_X10_withinOf; rw [h.2 16 (by omega), h.2 17 (by omega), h.2 18 (by omega)]
theorem dv_tongueL (h : Dv τ τ') (hg : ∀ j, 42 ≤ j → j ≤ 45 → τ'.2.2 j = τ.2.2 j) : ∀ (n : Nat) (a b c d e f k : Int32), f_X10_tongue_L39 n τ' a b c d e f k = f_X10_tongue_L39 n τ a b c d e f k
  | 0, _, _, _, _, _, _, _ => rfl
  | n + 1, a, b, c, d, e, f, k => by rw [f_X10_tongue_L39, f_X10_tongue_L39]; simp only [hg 42 (by decide) (by decide), hg 43 (by decide) (by decide), hg 44 (by decide) (by decide), hg 45 (by decide) (by decide), h.2 17 (by omega), dv_within h, dv_tongueL h hg n]
theorem dv_tongue (h : Dv τ τ') (hg : ∀ j, 42 ≤ j → j ≤ 45 → τ'.2.2 j = τ.2.2 j) (a b : Int32) : f_X10_tongue τ' a b = f_X10_tongue τ a b := by unfold f_X10_tongue; rw [dv_tongueL h hg]
theorem dv_txt (h : Dv τ τ') (x : Nat) : txt τ' x = txt τ x := by unfold txt; rw [h.2 1 (by omega), h.2 2 (by omega)]
theorem Dv.rf (τ : MSt) : Dv τ τ := ⟨rfl, fun _ _ => rfl⟩
theorem ma_j {τ : MSt} {k i j : Nat} {x : Int32} (h : j ≠ k) : (ma τ k i x).2.2 j = τ.2.2 j := by
  show (if j = k then upd (τ.2.2 k) i x else τ.2.2 j) = _
  rw [if_neg h]
theorem ma_k {τ : MSt} {k i : Nat} {x : Int32} : (ma τ k i x).2.2 k = upd (τ.2.2 k) i x := by
  show (if k = k then upd (τ.2.2 k) i x else τ.2.2 k) = _
  rw [if_pos rfl]
theorem mp_j {τ : MSt} {k j : Nat} {x : Int32} (h : j ≠ k) : (mp τ k x).1 j = τ.1 j := by
  show upd τ.1 k x j = _
  exact upd_ne h
theorem Dv.ma (h : Dv τ τ') {k i : Nat} {x : Int32} (hk : ¬ (k ≤ 2 ∨ (16 ≤ k ∧ k ≤ 25))) : Dv τ (ma τ' k i x) := ⟨h.1, fun j hj => (ma_j (fun z => hk (by subst z; exact hj))).trans (h.2 j hj)⟩
theorem Dv.mp (h : Dv τ τ') {k : Nat} {x : Int32} (hk : k ≠ 26) : Dv τ (mp τ' k x) := ⟨(mp_j (fun z => hk z.symm)).trans h.1, h.2⟩
end DV
section TR
variable {S : XSh} {σ σ' : XSt} {τ τ' : MSt}
theorem RelW.tr (h : RelW S σ τ) (e : σ'.1 8 = σ.1 8) (n : τ'.1 12 = τ.1 12) (a : ∀ j, 7 ≤ j → j ≤ 11 → τ'.2.2 j = τ.2.2 j) : RelW S σ' τ' := by
  unfold RelW at h ⊢
  rw [e, n, a 7 (by decide) (by decide), a 8 (by decide) (by decide), a 9 (by decide) (by decide), a 10 (by decide) (by decide), a 11 (by decide) (by decide)]
  exact h
theorem RelB.tr (h : RelB S σ τ) (e : σ'.1 1 = σ.1 1) (v : Dv τ τ') (n : τ'.1 20 = τ.1 20) (h10 : τ'.2.2 10 = τ.2.2 10) : RelB S σ' τ' := by
  unfold RelB at h ⊢
  rw [e, n, v.2 16 (by omega), v.2 17 (by omega), v.2 18 (by omega)]
  refine ⟨h.1, fun b hb => ⟨(h.2 b hb).1, (h.2 b hb).2.1, (h.2 b hb).2.2.1, fun p hp => ?_⟩⟩
  rw [dv_shows v h10]
  exact (h.2 b hb).2.2.2 p hp
theorem RelS.tr (h : RelS σ τ) (e : σ'.1 3 = σ.1 3) (a : ∀ c, 23 ≤ c → c ≤ 27 → σ'.2 c = σ.2 c) (v : Dv τ τ') : RelS σ' τ' := by
  unfold RelS at h ⊢
  rw [e, v.1, a 23 (by decide) (by decide), a 24 (by decide) (by decide), a 25 (by decide) (by decide), a 26 (by decide) (by decide), a 27 (by decide) (by decide), v.2 21 (by omega), v.2 22 (by omega), v.2 23 (by omega), v.2 24 (by omega), v.2 25 (by omega)]
  exact h
theorem RelD.tr (h : RelD S σ τ) (e : σ'.1 1 = σ.1 1) (v : Dv τ τ') : RelD S σ' τ' := by
  unfold RelD at h ⊢
  intro b hb
  rw [e, v.1, dv_owner v, dv_gap v, dv_chn v, dv_lastY v]
  exact h b hb
theorem RelK.tr (h : RelK σ τ) (a : ∀ c, 20 ≤ c → c ≤ 22 → σ'.2 c = σ.2 c) (b : ∀ j, 13 ≤ j → j ≤ 15 → τ'.2.2 j = τ.2.2 j) : RelK σ' τ' := by
  unfold RelK at h ⊢
  rw [a 20 (by decide) (by decide), a 21 (by decide) (by decide), a 22 (by decide) (by decide), b 13 (by decide) (by decide), b 14 (by decide) (by decide), b 15 (by decide) (by decide)]
  exact h
theorem RelI.tr (h : RelI S σ τ) (e : σ'.1 2 = σ.1 2) (a0 : σ'.2 20 1 = σ.2 20 1) (a1 : σ'.2 21 1 = σ.2 21 1) (a2 : σ'.2 22 1 = σ.2 22 1) (a3 : σ'.2 31 = σ.2 31) (n : ∀ j, 52 ≤ j → j ≤ 55 → τ'.1 j = τ.1 j) (b : ∀ j, 48 ≤ j → j ≤ 51 → τ'.2.2 j = τ.2.2 j) : RelI S σ' τ' := by
  unfold RelI at h ⊢
  rw [e, a0, a1, a2, a3, n 52 (by decide) (by decide), n 53 (by decide) (by decide), n 54 (by decide) (by decide), n 55 (by decide) (by decide), b 48 (by decide) (by decide), b 49 (by decide) (by decide), b 50 (by decide) (by decide), b 51 (by decide) (by decide)]
  exact h
theorem RelR.tr (h : RelR S σ τ) (e : σ'.1 9 0 6 = σ.1 9 0 6) (e5 : σ'.1 5 = σ.1 5) (a : σ'.2 32 = σ.2 32) (n3 : τ'.1 3 = τ.1 3) (n4 : τ'.1 4 = τ.1 4) (v : Dv τ τ') : RelR S σ' τ' := by
  unfold RelR at h ⊢
  rw [e, e5, a, n3, n4]
  refine ⟨h.1, h.2.1, h.2.2.1, fun i hi => ?_⟩
  rw [dv_txt v]
  exact h.2.2.2 i hi
theorem RelT.tr (h : RelT σ τ) (e : σ'.1 4 0 2 = σ.1 4 0 2) (a : σ'.2 28 = σ.2 28) (n : τ'.1 6 = τ.1 6) (b : τ'.2.2 5 = τ.2.2 5) : RelT σ' τ' := by
  unfold RelT at h ⊢
  rw [e, a, n, b]
  exact h
theorem RelG.tr (h : RelG S σ τ) (e : σ'.1 7 = σ.1 7) (v : Dv τ τ') (hg : ∀ j, 42 ≤ j → j ≤ 45 → τ'.2.2 j = τ.2.2 j) : RelG S σ' τ' := by
  unfold RelG at h ⊢
  intro t ht
  rw [e, hg 42 (by decide) (by decide), hg 43 (by decide) (by decide), dv_tongue v hg, dv_tongue v hg, dv_tongue v hg, dv_tongue v hg]
  exact h t ht
theorem RelH.tr (h : RelH σ τ) (e : σ'.1 6 = σ.1 6) (a : σ'.2 30 = σ.2 30) (b : ∀ j, 56 ≤ j → j ≤ 59 → τ'.2.2 j = τ.2.2 j) : RelH σ' τ' := by
  unfold RelH at h ⊢
  rw [e, a, b 56 (by decide) (by decide), b 57 (by decide) (by decide), b 58 (by decide) (by decide), b 59 (by decide) (by decide)]
  exact h
theorem xp_c {c i k c' : Nat} {x : Int32} (h : c' ≠ c) : (xp σ c i k x).1 c' = σ.1 c' := by
  funext i' k'
  exact xp_o (fun z => h z.1)
theorem xa_c {c i k c' : Nat} {x : Int32} (h : c' ≠ c) : (xa σ c i k x).2 c' = σ.2 c' := by
  funext i'
  exact up3_other _ _ _ (fun z => h z.1)
theorem xa_2 {c i k c' i' : Nat} {x : Int32} (h : ¬ (c' = c ∧ i' = i)) : (xa σ c i k x).2 c' i' = σ.2 c' i' := up3_other _ _ _ h
theorem xb_2 {c i c' i' : Nat} {a : Nat → Int32} (h : ¬ (c' = c ∧ i' = i)) : (xb σ c i a).2 c' i' = σ.2 c' i' := up3a_other _ _ h
theorem xb_c {c i c' : Nat} {a : Nat → Int32} (h : c' ≠ c) : (xb σ c i a).2 c' = σ.2 c' := by
  funext i'
  exact up3a_other _ _ (fun z => h z.1)
/-- both sides, kept -/
def Al (S : XSh) (σ : XSt) (τ : MSt) : Prop := Rel S σ τ ∧ XInv S σ ∧ MInv τ
/-- one answer, both sides kept -/
def Wr (S : XSh) (x : Int32 × XSt) (m : Int32 × MSt) : Prop := x.1 = m.1 ∧ Al S x.2 m.2
theorem Wr.no {v : Int32} (h : Al S σ τ) : Wr S (v, σ) (v, τ) := ⟨rfl, h⟩
theorem up_n {v m : Int32} {N : Nat} (e : m = nI N) (hN : N < 1000000) (c : ¬ f_X9_isUpTo v m = 0) : ∃ k : Nat, k ≤ N ∧ v = nI k := by
  rw [f_upTo] at c
  by_cases q : 0 ≤ v ∧ v ≤ m
  · exact nI_of_rg hN q.1 (e ▸ q.2)
  · rw [if_neg q] at c; exact absurd rfl c
theorem w_drunk (h : Al S σ τ) (p1 p2 : Int32) : Wr S (f_X9_drunk S σ p1 p2) (f_X10_drunk τ p1 p2) := by
  obtain ⟨hR, hX, hM⟩ := h
  unfold f_X9_drunk f_X10_drunk
  have h8 := hX.nw.2
  rcases eq_wine hR hX p1 with ⟨q1, q2⟩ | ⟨q1, q2, i, hi, rfl⟩
  · rw [if_pos q1, if_pos q2]; exact Wr.no ⟨hR, hX, hM⟩
  · rw [q1, q2, if_neg n10, if_neg n10, in_up p2 999 999 rfl, nI_clamp (show i < 2 ^ 31 by omega)]
    by_cases c : f_X9_isUpTo p2 999 = 0
    · rw [if_pos c, if_pos c]; exact Wr.no ⟨hR, hX, hM⟩
    · rw [if_neg c, if_neg c]
      obtain ⟨k, hk, rfl⟩ := up_n (N := 999) rfl (by decide) c
      have v : Dv τ (ma τ 9 i (nI k)) := (Dv.rf τ).ma (by omega)
      refine ⟨(hR.w.2 i hi).2.2.2.2.2.1, ⟨⟨hR.w.1, fun j hj => ?_⟩, hR.b.tr (xp_c (by decide)) v rfl (ma_j (by decide)), hR.s.tr (xp_c (by decide)) (fun _ _ _ => rfl) v, hR.d.tr (xp_c (by decide)) v, hR.k.tr (fun _ _ _ => rfl) (fun j a b => ma_j (by omega)), hR.i.tr (xp_c (by decide)) rfl rfl rfl rfl (fun _ _ _ => rfl) (fun j a b => ma_j (by omega)), hR.r.tr (xp_o (by omega)) (xp_c (by decide)) rfl rfl rfl v, hR.t.tr (xp_o (by omega)) rfl rfl (ma_j (by decide)), hR.g.tr (xp_c (by decide)) v (fun j a b => ma_j (by omega)), hR.h.tr (xp_c (by decide)) rfl (fun j a b => ma_j (by omega))⟩, hX.c8, hM⟩
      have w := hR.w.2 j hj
      rw [xp_o (by omega), xp_o (by omega), xp_o (by omega), xp_o (by omega), xp_o (by omega), ma_j (by decide), ma_j (by decide), ma_j (by decide), ma_j (by decide), ma_k]
      refine ⟨w.1, w.2.1, w.2.2.1, w.2.2.2.1, w.2.2.2.2.1, ?_, w.2.2.2.2.2.2.1, w.2.2.2.2.2.2.2.1, ?_⟩
      · by_cases e : j = i
        · subst e; rw [xp_s, upd_at]
        · rw [xp_o (by omega), upd_ne e]; exact w.2.2.2.2.2.1
      · by_cases e : j = i
        · subst e; rw [upd_at]; exact ⟨k, hk, rfl⟩
        · rw [upd_ne e]; exact w.2.2.2.2.2.2.2.2
theorem w_force (h : Al S σ τ) (p1 : Int32) : Wr S (f_X9_force S σ p1) (f_X10_force τ p1) := by
  obtain ⟨hR, hX, hM⟩ := h
  have h6 := hX.nr.2
  unfold f_X9_force f_X10_force
  rw [hX.nr.1, hR.r.1]
  rcases in_n p1 (n := S 0 2) (by omega) with ⟨q1, q2⟩ | ⟨q1, i, hi, rfl⟩
  · rw [if_pos q1]
    by_cases c : f_X9_isBelow p1 (nI (S 0 2)) = 0
    · rw [if_pos c]; exact Wr.no ⟨hR, hX, hM⟩
    · exact absurd (below_n rfl (by omega) c) q2
  · have e : f_X9_isBelow (nI i) (nI (S 0 2)) = 1 := by
      rw [f_below, if_pos ⟨nI_pos' (by omega), nI_lt hi (by omega)⟩]
    rw [e, q1, if_neg n10, if_neg n10]
    have v : Dv τ (mp τ 4 (nI i)) := (Dv.rf τ).mp (by decide)
    refine ⟨hR.r.2.1.symm, ⟨hR.w.tr (xp_c (by decide)) (mp_j (by decide)) (fun _ _ _ => rfl), hR.b.tr (xp_c (by decide)) v (mp_j (by decide)) rfl, hR.s.tr (xp_c (by decide)) (fun _ _ _ => rfl) v, hR.d.tr (xp_c (by decide)) v, hR.k.tr (fun _ _ _ => rfl) (fun _ _ _ => rfl), hR.i.tr (xp_c (by decide)) rfl rfl rfl rfl (fun j a b => mp_j (by omega)) (fun _ _ _ => rfl), ⟨(mp_j (by decide)).trans hR.r.1, ?_, ⟨i, hi, xp_s _ _ _ _ _⟩, fun j hj => ?_⟩, hR.t.tr (xp_o (by omega)) rfl (mp_j (by decide)) rfl, hR.g.tr (xp_c (by decide)) v (fun j a b => rfl), hR.h.tr (xp_c (by decide)) rfl (fun _ _ _ => rfl)⟩, hX, ?_⟩
    · rw [xp_s]; exact upd_at τ.1 4 (nI i)
    · have := hR.r.2.2.2 j hj
      rw [dv_txt v, xp_c (show 5 ≠ 9 by decide)]
      exact this
    · have m := hM
      refine ⟨hM.1, hM.2.1, hM.2.2.1, hM.2.2.2.1, hM.2.2.2.2.1, hM.2.2.2.2.2.1, hM.2.2.2.2.2.2.1, hM.2.2.2.2.2.2.2.1, hM.2.2.2.2.2.2.2.2.1, hM.2.2.2.2.2.2.2.2.2.1, hM.2.2.2.2.2.2.2.2.2.2.1, ?_, hM.2.2.2.2.2.2.2.2.2.2.2.2⟩
      show vp_in (nI i) 6
      exact vp_in_nI (by omega) (by decide)
theorem w_test (h : Al S σ τ) (p1 p2 : Int32) : Wr S (f_X9_test S σ p1 p2) (f_X10_test τ p1 p2) := by
  obtain ⟨hR, hX, hM⟩ := h
  unfold f_X9_test f_X10_test
  rw [show f_X10_in p1.toInt64 0 2 = f_X9_isBelow p1 3 from in_bel p1 2 2 (by decide) rfl, in_up p2 100 100 rfl]
  by_cases c1 : f_X9_isBelow p1 3 = 0
  · rw [if_pos c1, if_pos c1]; exact Wr.no ⟨hR, hX, hM⟩
  · rw [if_neg c1, if_neg c1]
    by_cases c : f_X9_isUpTo p2 100 = 0
    · rw [if_pos c, if_pos c]; exact Wr.no ⟨hR, hX, hM⟩
    · rw [if_neg c, if_neg c]
      generalize p1.toNatClampNeg = i
      have v : Dv τ (ma τ 15 i p2) := (Dv.rf τ).ma (by omega)
      refine ⟨congrFun hR.k.2.2 i, ⟨hR.w.tr rfl rfl (fun j a b => ma_j (by omega)), hR.b.tr rfl v rfl (ma_j (by decide)), hR.s.tr rfl (fun c a b => xa_c (by omega)) v, hR.d.tr rfl v, ⟨?_, ?_, ?_⟩, hR.i.tr rfl (congrFun (xa_c (by decide)) 1) (congrFun (xa_c (by decide)) 1) (xa_2 (by decide)) (xa_c (by decide)) (fun _ _ _ => rfl) (fun j a b => ma_j (by omega)), hR.r.tr rfl rfl (xa_c (by decide)) rfl rfl v, hR.t.tr rfl (xa_c (by decide)) rfl (ma_j (by decide)), hR.g.tr rfl v (fun j a b => ma_j (by omega)), hR.h.tr rfl (xa_c (by decide)) (fun j a b => ma_j (by omega))⟩, hX.xa (by decide), hM⟩
      · rw [xa_c (by decide), ma_j (by decide)]; exact hR.k.1
      · rw [xa_c (by decide), ma_j (by decide)]; exact hR.k.2.1
      · rw [ma_k, ← hR.k.2.2]; exact up3_self _ _ _ _ _
end TR
