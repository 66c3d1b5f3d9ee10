/-! writers: feed -/
theorem nar_b (x : Int32) : vp_nar .byte (Int8.toInt32 (Int32.toInt8 x)) = Int8.toInt32 (Int32.toInt8 x) := by
  show Int8.toInt32 (Int32.toInt8 (Int8.toInt32 (Int32.toInt8 x))) = _
  rw [Int8.toInt8_toInt32]
theorem bt_255 (i : Nat) : (255#32).getLsbD i = decide (i < 8) := by
  rw [BitVec.getLsbD_ofNat, show (255 : Nat) = 2 ^ 8 - 1 from rfl, Nat.testBit_two_pow_sub_one]
  by_cases h : i < 8
  · simp [h]; omega
  · simp [h]
theorem bt_255l (i : Nat) : (255#64).getLsbD i = decide (i < 8) := by
  rw [BitVec.getLsbD_ofNat, show (255 : Nat) = 2 ^ 8 - 1 from rfl, Nat.testBit_two_pow_sub_one]
  by_cases h : i < 8
  · simp [h]; omega
  · simp [h]
theorem b32 : (255 : Int32).toBitVec = 255#32 := rfl
theorem b64 : (255 : Int64).toBitVec = 255#64 := rfl
theorem low_b (x : Int32) : Int8.toInt32 (Int32.toInt8 x) &&& 255 = x &&& 255 := by
  apply Int32.toBitVec_inj.1
  rw [Int32.toBitVec_and, Int32.toBitVec_and, Int8.toBitVec_toInt32, Int32.toBitVec_toInt8, b32]
  apply BitVec.eq_of_getLsbD_eq
  intro i hi
  rw [BitVec.getLsbD_and, BitVec.getLsbD_and, bt_255]
  by_cases h : i < 8
  · rw [BitVec.getLsbD_signExtend, BitVec.getLsbD_signExtend]
    simp [h, hi]
  · simp [h]
theorem s1_t : ∀ k, k < 8 → (UInt64.ofNat (8 * k)).toBitVec % 64 = BitVec.ofNat 64 (8 * k) ∧ (Int64.ofNat (8 * k)).toBitVec.smod 64 = BitVec.ofNat 64 (8 * k) ∧ (BitVec.ofNat 64 (8 * k)).toNat = 8 * k := by decide +kernel
theorem e1_t : ∀ k, k < 8 → (Int32.toInt64 ((8 : Int32) * nI k)).toUInt64 &&& Int64.toUInt64 63 = UInt64.ofNat (8 * k) ∧ Int32.toInt64 ((8 : Int32) * nI k) &&& 63 = Int64.ofNat (8 * k) := by decide +kernel
theorem sh_b (v : Int64) (k : Nat) (hk : k < 8) : Int64.toInt32 ((Int64.toUInt64 v >>> ((Int32.toInt64 ((8 : Int32) * nI k)).toUInt64 &&& Int64.toUInt64 63)).toInt64) &&& 255 = Int64.toInt32 ((v >>> (Int32.toInt64 ((8 : Int32) * nI k) &&& 63)) &&& (255 : Int64)) := by
  obtain ⟨s1, s2, s3⟩ := s1_t k hk
  rw [(e1_t k hk).1, (e1_t k hk).2]
  apply Int32.toBitVec_inj.1
  rw [Int32.toBitVec_and, Int64.toBitVec_toInt32, Int64.toBitVec_toInt32, Int64.toBitVec_and, UInt64.toBitVec_toInt64, UInt64.toBitVec_shiftRight, Int64.toBitVec_shiftRight, s1, s2, b32, b64, BitVec.ushiftRight_eq', BitVec.sshiftRight_eq', s3]
  apply BitVec.eq_of_getLsbD_eq
  intro i hi
  rw [BitVec.getLsbD_and, BitVec.getLsbD_signExtend, BitVec.getLsbD_signExtend, BitVec.getLsbD_and, bt_255, bt_255l, BitVec.getLsbD_ushiftRight, BitVec.getLsbD_sshiftRight]
  by_cases h : i < 8
  · have h1 : i < 64 := by omega
    have h2 : 8 * k + i < 64 := by omega
    have h3 : ¬ 64 ≤ i := by omega
    simp [h, hi, h1, h2, h3]
  · have h1 : i < 64 := by omega
    simp [h, h1]
theorem and_255 (x : Int32) : 0 ≤ x &&& 255 := by
  rw [Int32.le_iff_toInt_le]
  show (0 : Int32).toInt ≤ (x &&& 255).toBitVec.toInt
  rw [Int32.toBitVec_and, b32, BitVec.toInt_eq_toNat_of_msb (by rw [BitVec.msb_and, show (255#32).msb = false from by decide, Bool.and_false])]
  exact Int.natCast_nonneg _
section FD
variable {S : XSh}
theorem feed_st {σ : XSt} {τ : MSt} (h : Al S σ τ) {z : Nat} (ez : τ.1 6 = nI z) (hz : z < 160) (x y : Int32) (e : x &&& 255 = y) : Al S (f_X4_put S σ x) (mp (ma τ 5 z y) 6 (nI (z + 1))) := by
  obtain ⟨hR, hX, hM⟩ := h
  have es : σ.1 4 0 2 = nI z := hR.t.1.symm.trans ez
  have c : ¬ (160 : Int32) ≤ σ.1 4 0 2 := by
    rw [es]
    exact fun q => by have := (nI_leI (a := 160) (by decide) (by omega)).mp q; omega
  unfold f_X4_put
  rw [if_neg c, es, nI_clamp (show z < 2 ^ 31 by omega), nI_1, nar_b]
  have v : Dv τ (mp (ma τ 5 z y) 6 (nI (z + 1))) := ((Dv.rf τ).ma (by omega)).mp (by decide)
  have m (j : Nat) (hj : j ≠ 5) : (mp (ma τ 5 z y) 6 (nI (z + 1))).2.2 j = τ.2.2 j := ma_j hj
  have m1 (j : Nat) (hj : j ≠ 6) : (mp (ma τ 5 z y) 6 (nI (z + 1))).1 j = τ.1 j := mp_j hj
  have x1 (c : Nat) (hc : c ≠ 4) : (xp (xa σ 28 0 z (Int8.toInt32 (Int32.toInt8 x))) 4 0 2 (nI (z + 1))).1 c = σ.1 c := (xp_c hc).trans rfl
  have x2 (c : Nat) (hc : c ≠ 28) : (xp (xa σ 28 0 z (Int8.toInt32 (Int32.toInt8 x))) 4 0 2 (nI (z + 1))).2 c = σ.2 c := xa_c hc
  refine ⟨⟨hR.w.tr (x1 8 (by decide)) (m1 12 (by decide)) (fun j a b => m j (by omega)), hR.b.tr (x1 1 (by decide)) v (m1 20 (by decide)) (m 10 (by decide)), hR.s.tr (x1 3 (by decide)) (fun c a b => x2 c (by omega)) v, hR.d.tr (x1 1 (by decide)) v, hR.k.tr (fun c a b => x2 c (by omega)) (fun j a b => m j (by omega)), hR.i.tr (x1 2 (by decide)) (by rw [x2 20 (by decide)]) (by rw [x2 21 (by decide)]) (by rw [x2 22 (by decide)]) (x2 31 (by decide)) (fun j a b => m1 j (by omega)) (fun j a b => m j (by omega)), hR.r.tr (by rw [x1 9 (by decide)]) (x1 5 (by decide)) (x2 32 (by decide)) (m1 3 (by decide)) (m1 4 (by decide)) v, ⟨?_, fun i hi => ?_⟩, hR.g.tr (x1 7 (by decide)) v (fun j a b => m j (by omega)), hR.h.tr (x1 6 (by decide)) (x2 30 (by decide)) (fun j a b => m j (by omega))⟩, ?_, ?_⟩
  · rw [xp_s]; exact upd_at τ.1 6 _
  · have e6 : (mp (ma τ 5 z y) 6 (nI (z + 1))).1 6 = nI (z + 1) := upd_at τ.1 6 _
    rw [e6, nI_clamp (by omega)] at hi
    have a5 : (mp (ma τ 5 z y) 6 (nI (z + 1))).2.2 5 = upd (τ.2.2 5) z y := ma_k (τ := τ) (k := 5)
    have a28 : (xp (xa σ 28 0 z (Int8.toInt32 (Int32.toInt8 x))) 4 0 2 (nI (z + 1))).2 28 0 = upd (σ.2 28 0) z (Int8.toInt32 (Int32.toInt8 x)) := up3_self _ _ _ _ _
    rw [a5, a28]
    by_cases q : i = z
    · rw [q, upd_at, upd_at, low_b, nar_b]; exact ⟨e.symm, rfl⟩
    · rw [upd_ne q, upd_ne q]
      exact hR.t.2 i (by rw [ez, nI_clamp (by omega)]; omega)
  · have hh := hX
    unfold XInv at hh ⊢
    rw [x1 9 (by decide), x1 3 (by decide), x1 2 (by decide), x1 6 (by decide), x2 23 (by decide)]
    refine ⟨hh.1, hh.2.1, hh.2.2.1, hh.2.2.2.1, ?_, hh.2.2.2.2.2⟩
    rw [xp_s]
    exact ⟨z + 1, by omega, rfl⟩
  · have hh := hM
    unfold MInv at hh ⊢
    rw [m1 12 (by decide), m1 20 (by decide), m1 26 (by decide), m1 3 (by decide), m1 4 (by decide), m1 53 (by decide), m1 54 (by decide), m1 55 (by decide), m 17 (by decide), m 18 (by decide), m 10 (by decide), m 19 (by decide), m 21 (by decide), m 16 (by decide), m 2 (by decide), m 1 (by decide), m 56 (by decide), m 58 (by decide), m 42 (by decide), m 43 (by decide)]
    refine ⟨⟨hh.1.1, hh.1.2.1, hh.1.2.2.1, hh.1.2.2.2.1, ⟨z + 1, by omega, upd_at τ.1 6 _⟩⟩, hh.2.1, hh.2.2.1, hh.2.2.2.1, hh.2.2.2.2.1, hh.2.2.2.2.2.1, hh.2.2.2.2.2.2.1, hh.2.2.2.2.2.2.2.1, hh.2.2.2.2.2.2.2.2.1, hh.2.2.2.2.2.2.2.2.2.1, hh.2.2.2.2.2.2.2.2.2.2.1, hh.2.2.2.2.2.2.2.2.2.2.2.1, hh.2.2.2.2.2.2.2.2.2.2.2.2.1, hh.2.2.2.2.2.2.2.2.2.2.2.2.2.1, hh.2.2.2.2.2.2.2.2.2.2.2.2.2.2.1, hh.2.2.2.2.2.2.2.2.2.2.2.2.2.2.2.1, fun i => ?_⟩
    have a5 : (mp (ma τ 5 z y) 6 (nI (z + 1))).2.2 5 = upd (τ.2.2 5) z y := ma_k (τ := τ) (k := 5)
    rw [a5]
    by_cases q : i = z
    · rw [q, upd_at, ← e]; exact and_255 x
    · rw [upd_ne q]; exact hM.tp i
theorem feed_L {m : Nat} (hm : m ≤ 8) (p2 : Int64) : ∀ (n k : Nat) (σ : XSt) (τ : MSt) (z : Nat), Al S σ τ → τ.1 6 = nI z → k ≤ m → m - k < n → z + (m - k) ≤ 160 → Wr S (f_X9_feed_L35 n S σ (nI m) p2 (nI k)) (f_X10_feed_L33 n τ (nI m) p2 (nI k)) := by
  intro n
  induction n with
  | zero => intro k σ τ z _ _ _ h; exact absurd h (Nat.not_lt_zero _)
  | succ n ih =>
    intro k σ τ z hA ez hk hn hz
    rw [f_X9_feed_L35, f_X10_feed_L33]
    by_cases c : k = m
    · subst c
      rw [if_pos (Int32.le_refl _), if_pos (Int32.le_refl _)]
      exact ⟨hA.1.t.1.symm, hA⟩
    · have c1 : ¬ nI m ≤ nI k := fun q => by have := (nI_leI (by omega) (by omega)).mp q; omega
      have e6 : (ma τ 5 (τ.1 6).toNatClampNeg (Int64.toInt32 ((p2 >>> (Int32.toInt64 ((8 : Int32) * nI k) &&& 63)) &&& (255 : Int64)))).1 6 = nI z := ez
      rw [if_neg c1, if_neg c1, e6, ez, nI_clamp (show z < 2 ^ 31 by omega), nI_1, nI_1]
      exact ih (k + 1) _ _ (z + 1) (feed_st hA ez (by omega) _ _ (sh_b p2 k (by omega))) (upd_at τ.1 6 _) (by omega) (by omega) (by omega)
theorem w_feed {σ : XSt} {τ : MSt} (h : Al S σ τ) (p1 : Int32) (p2 : Int64) : Wr S (f_X9_feed S σ p1 p2) (f_X10_feed τ p1 p2) := by
  have h0 := h
  obtain ⟨hR, hX, hM⟩ := h
  obtain ⟨z, hz, ez⟩ := hM.np
  have e18 : f_X10_in p1.toInt64 1 8 = if 1 ≤ p1 ∧ p1 ≤ 8 then 1 else 0 := f_in_32 p1 1 8
  unfold f_X9_feed f_X10_feed
  rw [e18, ← hR.t.1, ez]
  by_cases c1 : p1 < 1
  · rw [if_pos c1, if_neg (show ¬ (1 ≤ p1 ∧ p1 ≤ 8) from fun q => Int32.not_le.mpr c1 q.1), if_pos rfl]; exact Wr.no h0
  · rw [if_neg c1]
    by_cases c2 : p1 ≤ 8
    · have c1' : (1 : Int32) ≤ p1 := Int32.not_lt.mp c1
      rw [if_pos c2, if_pos (⟨c1', c2⟩ : 1 ≤ p1 ∧ p1 ≤ 8), if_neg n10]
      obtain ⟨m, hm, rfl⟩ := nI_of_rg (N := 8) (by decide) (Int32.le_trans (by decide) c1') c2
      rw [show (160 : Int32) = nI 160 from rfl, pk_sub (by omega), nI_add]
      by_cases c3 : z + m ≤ 160
      · rw [if_pos (nI_le (show m ≤ 160 - z by omega) (by omega)), if_pos (nI_le c3 (by omega))]
        exact feed_L hm p2 10 0 σ τ z h0 ez (Nat.zero_le _) (by omega) (by omega)
      · have a1 : ¬ nI m ≤ nI (160 - z) := fun q => by have := (nI_leI (by omega) (by omega)).mp q; omega
        have a2 : ¬ nI (z + m) ≤ nI 160 := fun q => by have := (nI_leI (by omega) (by omega)).mp q; omega
        rw [if_neg a1, if_neg a2]; exact Wr.no h0
    · rw [if_neg c2, if_neg (show ¬ (1 ≤ p1 ∧ p1 ≤ 8) from fun q => c2 q.2), if_pos rfl]; exact Wr.no h0
end FD
