def sB (k j : Nat) : Int32 := (xByt.getD k []).getD j 0
def sN (k : Nat) : Nat := xLen.getD k 0
def SKp (g : GC) (k a v : Nat) : Prop := (∀ s, gR g s → va_O "java/lang/String" a (gF g) s s.heap) ∧ (∀ s, gR g s → va_OF "java/lang/String" "coder" "B" (.int 0) a (gF g) s s.heap) ∧ (∀ s, gR g s → va_OF "java/lang/String" "value" "[B" (.ref v) a (gF g) s s.heap) ∧ RT g .byte v (sN k) (fun j => .int (sB k j))
theorem GX.str {g : GC} (h : GX g) (k : Nat) (hk : k < 3) : ∃ a v : Nat, SKp g k a v ∧ ∀ s, gR g s → vk_R (xTx k).1 (xTx k).2.1 (xTx k).2.2.1 a s := by
  obtain ⟨-, -, -, adK, adV, h1, h2⟩ := h
  exact ⟨adK k, adV k, ⟨fun s hs => ((h1 s hs).1 k hk).1, fun s hs => ((h1 s hs).1 k hk).2.1, fun s hs => ((h1 s hs).1 k hk).2.2.1, fun s hs => ((h1 s hs).1 k hk).2.2.2⟩, h2 k hk⟩
theorem GX.cs {g : GC} (h : GX g) : RZ g "java/lang/String" "COMPACT_STRINGS" "Z" (.int 1) := h.2.1
theorem GX.sf {g : GC} (h : GX g) : ∃ v : Value, (v = .null ∨ ∃ a, v = .ref a) ∧ RZ g "jdk/internal/util/Preconditions" "SIOOBE_FORMATTER" "Ljava/util/function/BiFunction;" v := h.2.2.1
set_option maxRecDepth 100000 in
theorem s_tab : ∀ k, k < 3 → sN k < 100 ∧ nI (sN k) >>> ((0 : Int32) &&& 31) = nI (sN k) ∧ ∀ j, j < sN k → (((sB k j &&& 255).toUInt32) % 65536).toInt32 = sB k j ∧ narrow .char (.int (sB k j)) = .int (sB k j) := by decide +kernel
/-- indexOf in the signs -/
def ixL (c : Int32) : Nat → Nat → Int32
  | 0, _ => -1
  | m + 1, k => if sB 2 k = c then nI k else ixL c m (k + 1)
section STR
variable {g : GC} {d k a v : Nat} {h : hH}
set_option maxRecDepth 100000 in
set_option maxHeartbeats 1000000 in
theorem ok_coder (hX : GX g) (hs : SKp g k a v) : AM g d 0 0 yJ0_coder_7d493 cJ0_coder_7d493 1 (some .byte) [.ref a] h (fun r h' => r = some (.int 0) ∧ h' = h) := by
  refine AM.of2 (own := RJ0) (nm := "coder") (L0 := [(0, .ref a)]) (by decide) rfl rfl (Nat.le_of_ble_eq_true rfl) rfl ?_
  refine r_gets dJ0_coder_7d493_0 hX.cs sl_RJ0_38 ?_
  refine r_if_eq (tgt := 13) dJ0_coder_7d493_3 (by decide) (fun c => absurd c (by decide)) (fun c => ?_)
  refine r_aload_n dJ0_coder_7d493_6 rfl ?_
  refine r_getO dJ0_coder_7d493_7 hs.2.1 sf_RJ0_15 ?_
  refine r_goto (tgt := 14) dJ0_coder_7d493_10 (by decide) ?_
  exact r_iret dJ0_coder_7d493_14 rfl rfl ⟨rfl, rfl⟩
set_option maxRecDepth 100000 in
set_option maxHeartbeats 1000000 in
theorem ok_isLatin1 (hX : GX g) (hs : SKp g k a v) : AM g d 0 0 yJ0_isLatin1_aae02 cJ0_isLatin1_aae02 1 (some .boolean) [.ref a] h (fun r h' => r = some (.int 1) ∧ h' = h) := by
  refine AM.of2 (own := RJ0) (nm := "isLatin1") (L0 := [(0, .ref a)]) (by decide) rfl rfl (Nat.le_of_ble_eq_true rfl) rfl ?_
  refine r_gets dJ0_isLatin1_aae02_0 hX.cs sl_RJ0_38 ?_
  refine r_if_eq (tgt := 17) dJ0_isLatin1_aae02_3 (by decide) (fun c => absurd c (by decide)) (fun c => ?_)
  refine r_aload_n dJ0_isLatin1_aae02_6 rfl ?_
  refine r_getO dJ0_isLatin1_aae02_7 hs.2.1 sf_RJ0_15 ?_
  refine r_if_ne (tgt := 17) dJ0_isLatin1_aae02_10 (by decide) (fun c => absurd rfl c) (fun c => ?_)
  refine r_iconst (v := (1 : Int32)) dJ0_isLatin1_aae02_13 (by decide) ?_
  refine r_goto (tgt := 18) dJ0_isLatin1_aae02_14 (by decide) ?_
  exact r_iret dJ0_isLatin1_aae02_18 rfl rfl ⟨rfl, rfl⟩
set_option maxRecDepth 100000 in
set_option maxHeartbeats 1000000 in
theorem ok_length (hX : GX g) (hs : SKp g k a v) (hk : k < 3) (hd : 1 ≤ d) : AM g d 0 0 yJ0_length_8abf5 cJ0_length_8abf5 1 (some .int) [.ref a] h (fun r h' => r = some (.int (nI (sN k))) ∧ h' = h) := by
  refine AM.of2 (own := RJ0) (nm := "length") (L0 := [(0, .ref a)]) (by decide) rfl rfl (Nat.le_of_ble_eq_true rfl) rfl ?_
  refine r_aload_n dJ0_length_8abf5_0 rfl ?_
  refine r_getO dJ0_length_8abf5_1 hs.2.2.1 sf_RJ0_9 ?_
  refine r_tlen (v := nI (sN k)) dJ0_length_8abf5_4 hs.2.2.2 rfl ?_
  refine r_aload_n dJ0_length_8abf5_5 rfl ?_
  refine r_callVO (As := []) (d1 := d - 1) (c1 := 0) (n1 := 0) dJ0_length_8abf5_6 mf_J0_coder_7d493 ml_RJ0_335 (ok_coder hX hs) hs.1 rfl rfl (Nat.le_of_ble_eq_true rfl) (by omega) (Nat.le_refl 0) (Nat.le_refl 0) (fun r h' hh => ?_)
  obtain ⟨rfl, rfl⟩ := hh
  refine r_ishr dJ0_length_8abf5_9 ?_
  exact r_iret dJ0_length_8abf5_10 rfl rfl ⟨by rw [(s_tab k hk).2.1], rfl⟩
set_option maxRecDepth 100000 in
set_option maxHeartbeats 1000000 in
theorem ok_pCheck {x n : Int32} {q : Value} (hq : q = .null ∨ ∃ b, q = .ref b) (h1 : ¬ x < 0) (h2 : x < n) : AM g d 0 0 yJ3_checkIndex_8e157 cJ3_checkIndex_8e157 3 (some .int) [.int x, .int n, q] h (fun r h' => r = some (.int x) ∧ h' = h) := by
  refine AM.of2 (own := RJ3) (nm := "checkIndex") (L0 := [(0, .int x), (1, .int n), (2, q)]) (by decide) rfl rfl (by rcases hq with rfl | ⟨b, rfl⟩ <;> exact Nat.le_of_ble_eq_true rfl) (by rcases hq with rfl | ⟨b, rfl⟩ <;> rfl) ?_
  refine r_iload_n dJ3_checkIndex_8e157_0 rfl ?_
  refine r_if_lt (tgt := 9) dJ3_checkIndex_8e157_1 (by decide) (fun c => absurd c h1) (fun c => ?_)
  refine r_iload_n dJ3_checkIndex_8e157_4 rfl ?_
  refine r_iload_n dJ3_checkIndex_8e157_5 rfl ?_
  refine r_icmp_lt (tgt := 16) dJ3_checkIndex_8e157_6 (by decide) (fun c => ?_) (fun c => absurd h2 c)
  refine r_iload_n dJ3_checkIndex_8e157_16 rfl ?_
  exact r_iret dJ3_checkIndex_8e157_17 rfl rfl ⟨rfl, rfl⟩
set_option maxRecDepth 100000 in
set_option maxHeartbeats 1000000 in
theorem ok_sCheck {x n : Int32} (hX : GX g) (h1 : ¬ x < 0) (h2 : x < n) (hd : 1 ≤ d) : AM g d 0 0 yJ0_checkIndex_df160 cJ0_checkIndex_df160 2 none [.int x, .int n] h (fun r h' => r = none ∧ h' = h) := by
  refine AM.of2 (own := RJ0) (nm := "checkIndex") (L0 := [(0, .int x), (1, .int n)]) (by decide) rfl rfl (Nat.le_of_ble_eq_true rfl) rfl ?_
  obtain ⟨q, hq, hz⟩ := hX.sf
  refine r_iload_n dJ0_checkIndex_df160_0 rfl ?_
  refine r_iload_n dJ0_checkIndex_df160_1 rfl ?_
  refine r_gets dJ0_checkIndex_df160_2 hz sl_RJ0_1053 ?_
  rcases hq with rfl | ⟨b, rfl⟩
  · refine r_callS0 (d1 := d - 1) (As := [.int x, .int n, .null]) dJ0_checkIndex_df160_5 mf_J3_checkIndex_8e157 ml_RJ0_1059 (ok_pCheck (Or.inl rfl) h1 h2) rfl rfl (Nat.le_of_ble_eq_true rfl) (by omega) ?_
    refine r_pop dJ0_checkIndex_df160_8 rfl ?_
    exact r_vret dJ0_checkIndex_df160_9 rfl ⟨rfl, rfl⟩
  · refine r_callS0 (d1 := d - 1) (As := [.int x, .int n, .ref b]) dJ0_checkIndex_df160_5 mf_J3_checkIndex_8e157 ml_RJ0_1059 (ok_pCheck (Or.inr ⟨_, rfl⟩) h1 h2) rfl rfl (Nat.le_of_ble_eq_true rfl) (by omega) ?_
    refine r_pop dJ0_checkIndex_df160_8 rfl ?_
    exact r_vret dJ0_checkIndex_df160_9 rfl ⟨rfl, rfl⟩
set_option maxRecDepth 100000 in
set_option maxHeartbeats 1000000 in
theorem ok_lCharAt (hX : GX g) (hs : SKp g k a v) (hk : k < 3) (hd : 2 ≤ d) {j : Nat} (hj : j < sN k) : AM g d 0 0 yJ1_charAt_3b067 cJ1_charAt_3b067 2 (some .char) [.ref v, .int (nI j)] h (fun r h' => r = some (.int (sB k j)) ∧ h' = h) := by
  have hN := (s_tab k hk).1
  obtain ⟨e1, e2⟩ := (s_tab k hk).2.2 j hj
  refine AM.of2 (own := RJ1) (nm := "charAt") (L0 := [(0, .ref v), (1, .int (nI j))]) (by decide) rfl rfl (Nat.le_of_ble_eq_true rfl) rfl ?_
  refine r_iload_n dJ1_charAt_3b067_0 rfl ?_
  refine r_aload_n dJ1_charAt_3b067_1 rfl ?_
  refine r_tlen (v := nI (sN k)) dJ1_charAt_3b067_2 hs.2.2.2 rfl ?_
  refine r_callS (d1 := d - 1) (c1 := 0) (n1 := 0) (As := [.int (nI j), .int (nI (sN k))]) dJ1_charAt_3b067_3 mf_J0_checkIndex_df160 ml_RJ1_9 (ok_sCheck hX (nI_pos (by omega)) (nI_lt hj (by omega)) (by omega)) rfl rfl (Nat.le_of_ble_eq_true rfl) (by omega) (Nat.le_refl 0) (Nat.le_refl 0) (fun r h' hh => ?_)
  obtain ⟨rfl, rfl⟩ := hh
  refine r_aload_n dJ1_charAt_3b067_6 rfl ?_
  refine r_iload_n dJ1_charAt_3b067_7 rfl ?_
  refine r_tb (v := .int (sB k j)) dJ1_charAt_3b067_8 hs.2.2.2 (vp_in_nI hj (by omega)) (by rw [nI_clamp (by omega)]) ?_
  refine r_sipush (v := (255 : Int32)) dJ1_charAt_3b067_9 (by decide) ?_
  refine r_iand dJ1_charAt_3b067_12 ?_
  refine r_i2c dJ1_charAt_3b067_13 ?_
  rw [e1]
  exact r_iret dJ1_charAt_3b067_14 rfl e2 ⟨rfl, rfl⟩
set_option maxRecDepth 100000 in
set_option maxHeartbeats 1000000 in
theorem ok_charAt (hX : GX g) (hs : SKp g k a v) (hk : k < 3) (hd : 3 ≤ d) {j : Nat} (hj : j < sN k) : AM g d 0 0 yJ0_charAt_5068e cJ0_charAt_5068e 2 (some .char) [.ref a, .int (nI j)] h (fun r h' => r = some (.int (sB k j)) ∧ h' = h) := by
  obtain ⟨e1, e2⟩ := (s_tab k hk).2.2 j hj
  refine AM.of2 (own := RJ0) (nm := "charAt") (L0 := [(0, .ref a), (1, .int (nI j))]) (by decide) rfl rfl (Nat.le_of_ble_eq_true rfl) rfl ?_
  refine r_aload_n dJ0_charAt_5068e_0 rfl ?_
  refine r_callVO (As := []) (d1 := d - 1) (c1 := 0) (n1 := 0) dJ0_charAt_5068e_1 mf_J0_isLatin1_aae02 ml_RJ0_492 (ok_isLatin1 hX hs) hs.1 rfl rfl (Nat.le_of_ble_eq_true rfl) (by omega) (Nat.le_refl 0) (Nat.le_refl 0) (fun r h' hh => ?_)
  obtain ⟨rfl, rfl⟩ := hh
  refine r_if_eq (tgt := 16) dJ0_charAt_5068e_4 (by decide) (fun c => absurd c (by decide)) (fun c => ?_)
  refine r_aload_n dJ0_charAt_5068e_7 rfl ?_
  refine r_getO dJ0_charAt_5068e_8 hs.2.2.1 sf_RJ0_9 ?_
  refine r_iload_n dJ0_charAt_5068e_11 rfl ?_
  refine r_callS0 (d1 := d - 1) (As := [.ref v, .int (nI j)]) dJ0_charAt_5068e_12 mf_J1_charAt_3b067 ml_RJ0_495 (ok_lCharAt hX hs hk (by omega) hj) rfl rfl (Nat.le_of_ble_eq_true rfl) (by omega) ?_
  exact r_iret dJ0_charAt_5068e_15 rfl e2 ⟨rfl, rfl⟩
set_option maxRecDepth 100000 in
set_option maxHeartbeats 1000000 in
theorem ok_canEncode {x : Int32} (h1 : ¬ x < 0) (h2 : ¬ 255 < x) : AM g d 0 0 yJ1_canEncode_9a6ad cJ1_canEncode_9a6ad 1 (some .boolean) [.int x] h (fun r h' => r = some (.int 1) ∧ h' = h) := by
  refine AM.of2 (own := RJ1) (nm := "canEncode") (L0 := [(0, .int x)]) (by decide) rfl rfl (Nat.le_of_ble_eq_true rfl) rfl ?_
  refine r_iload_n dJ1_canEncode_9a6ad_0 rfl ?_
  refine r_if_lt (tgt := 15) dJ1_canEncode_9a6ad_1 (by decide) (fun c => absurd c h1) (fun c => ?_)
  refine r_iload_n dJ1_canEncode_9a6ad_4 rfl ?_
  refine r_sipush (v := (255 : Int32)) dJ1_canEncode_9a6ad_5 (by decide) ?_
  refine r_icmp_gt (tgt := 15) dJ1_canEncode_9a6ad_8 (by decide) (fun c => absurd c h2) (fun c => ?_)
  refine r_iconst (v := (1 : Int32)) dJ1_canEncode_9a6ad_11 (by decide) ?_
  refine r_goto (tgt := 16) dJ1_canEncode_9a6ad_12 (by decide) ?_
  exact r_iret dJ1_canEncode_9a6ad_16 rfl rfl ⟨rfl, rfl⟩
set_option maxRecDepth 100000 in
set_option maxHeartbeats 1000000 in
theorem lp_ix {x c0 : Int32} (hs : SKp g 2 a v) : ∀ m j : Nat, j + m = 8 → AW g RJ1 cJ1_indexOfChar_4cfef 6 (some .int) "indexOfChar" d 0 0 (fun r h' => r = some (.int (ixL c0 m j)) ∧ h' = h) 7 [(5, .int (nI j)), (4, .int c0), (0, .ref v), (1, .int x), (2, .int 0), (3, .int 8)] [] h := by
  intro m
  induction m with
  | zero =>
    intro j hj
    have e : j = 8 := by omega
    subst e
    refine r_iload dJ1_indexOfChar_4cfef_7 rfl ?_
    refine r_iload_n dJ1_indexOfChar_4cfef_9 rfl ?_
    refine r_icmp_ge (tgt := 31) dJ1_indexOfChar_4cfef_10 (by decide) (fun c => ?_) (fun c => absurd (by decide) c)
    refine r_iconst (v := (-1 : Int32)) dJ1_indexOfChar_4cfef_31 (by decide) ?_
    exact r_iret dJ1_indexOfChar_4cfef_32 rfl rfl ⟨rfl, rfl⟩
  | succ m ih =>
    intro j hj
    refine r_iload dJ1_indexOfChar_4cfef_7 rfl ?_
    refine r_iload_n dJ1_indexOfChar_4cfef_9 rfl ?_
    refine r_icmp_ge (tgt := 31) dJ1_indexOfChar_4cfef_10 (by decide) (fun c => absurd ((nI_leI (a := 8) (by omega) (by omega)).mp c) (by omega)) (fun c => ?_)
    refine r_aload_n dJ1_indexOfChar_4cfef_13 rfl ?_
    refine r_iload dJ1_indexOfChar_4cfef_14 rfl ?_
    refine r_tb (v := .int (sB 2 j)) dJ1_indexOfChar_4cfef_16 hs.2.2.2 (vp_in_nI (show j < 8 by omega) (by decide)) (by rw [nI_clamp (by omega)]) ?_
    refine r_iload dJ1_indexOfChar_4cfef_17 rfl ?_
    refine r_icmp_ne (tgt := 25) dJ1_indexOfChar_4cfef_19 (by decide) (fun c1 => ?_) (fun c1 => ?_)
    · refine r_iinc2 (w := 1) dJ1_indexOfChar_4cfef_25 rfl (by decide) (by decide) ?_
      refine r_goto (tgt := 7) dJ1_indexOfChar_4cfef_28 (by decide) ?_
      refine r_loc (L' := [(5, .int (nI (j + 1))), (4, .int c0), (0, .ref v), (1, .int x), (2, .int 0), (3, .int 8)]) [0, 1, 2, 3, 4, 5] (by rw [← nI_1]; rfl) ?_
      rw [ixL, if_neg c1]
      exact ih (j + 1) (by omega)
    · refine r_iload dJ1_indexOfChar_4cfef_22 rfl ?_
      exact r_iret dJ1_indexOfChar_4cfef_24 rfl rfl ⟨by rw [ixL, if_pos c1], rfl⟩
set_option maxRecDepth 100000 in
set_option maxHeartbeats 1000000 in
theorem ok_ixC {x : Int32} (hs : SKp g 2 a v) : AM g d 0 0 yJ1_indexOfChar_4cfef cJ1_indexOfChar_4cfef 6 (some .int) [.ref v, .int x, .int 0, .int 8] h (fun r h' => r = some (.int (ixL x.toInt8.toInt32 8 0)) ∧ h' = h) := by
  refine AM.of2 (own := RJ1) (nm := "indexOfChar") (L0 := [(0, .ref v), (1, .int x), (2, .int 0), (3, .int 8)]) (by decide) rfl rfl (Nat.le_of_ble_eq_true rfl) rfl ?_
  refine r_iload_n dJ1_indexOfChar_4cfef_0 rfl ?_
  refine r_i2b dJ1_indexOfChar_4cfef_1 ?_
  refine r_istore dJ1_indexOfChar_4cfef_2 (by decide) ?_
  refine r_iload_n dJ1_indexOfChar_4cfef_4 rfl ?_
  refine r_istore dJ1_indexOfChar_4cfef_5 (by decide) ?_
  exact lp_ix hs 8 0 rfl
set_option maxRecDepth 100000 in
set_option maxHeartbeats 1000000 in
theorem ok_lIx {x : Int32} (hs : SKp g 2 a v) (h1 : ¬ x < 0) (h2 : ¬ 255 < x) (hd : 1 ≤ d) : AM g d 0 0 yJ1_indexOf_4cfef cJ1_indexOf_4cfef 4 (some .int) [.ref v, .int x, .int 0, .int 8] h (fun r h' => r = some (.int (ixL x.toInt8.toInt32 8 0)) ∧ h' = h) := by
  refine AM.of2 (own := RJ1) (nm := "indexOf") (L0 := [(0, .ref v), (1, .int x), (2, .int 0), (3, .int 8)]) (by decide) rfl rfl (Nat.le_of_ble_eq_true rfl) rfl ?_
  refine r_iload_n dJ1_indexOf_4cfef_0 rfl ?_
  refine r_callS0 (d1 := d - 1) (As := [.int x]) dJ1_indexOf_4cfef_1 mf_J1_canEncode_9a6ad ml_RJ1_88 (ok_canEncode h1 h2) rfl rfl (Nat.le_of_ble_eq_true rfl) (by omega) ?_
  refine r_if_ne (tgt := 9) dJ1_indexOf_4cfef_4 (by decide) (fun c => ?_) (fun c => absurd c (by decide))
  refine r_iload_n dJ1_indexOf_4cfef_9 rfl ?_
  refine r_iconst (v := (0 : Int32)) dJ1_indexOf_4cfef_10 (by decide) ?_
  refine r_mmax dJ1_indexOf_4cfef_11 ml_RJ1_92 (Nat.le_of_ble_eq_true rfl) (by omega) ?_
  rw [show (if (0 : Int32) < 0 then (0 : Int32) else 0) = 0 from rfl]
  refine r_istore_n dJ1_indexOf_4cfef_14 (by decide) ?_
  refine r_iload_n dJ1_indexOf_4cfef_15 rfl ?_
  refine r_aload_n dJ1_indexOf_4cfef_16 rfl ?_
  refine r_tlen (v := (8 : Int32)) dJ1_indexOf_4cfef_17 hs.2.2.2 rfl ?_
  refine r_mmin dJ1_indexOf_4cfef_18 ml_RJ1_38 (Nat.le_of_ble_eq_true rfl) (by omega) ?_
  rw [show (if (8 : Int32) < 8 then (8 : Int32) else 8) = 8 from rfl]
  refine r_istore_n dJ1_indexOf_4cfef_21 (by decide) ?_
  refine r_iload_n dJ1_indexOf_4cfef_22 rfl ?_
  refine r_iload_n dJ1_indexOf_4cfef_23 rfl ?_
  refine r_icmp_lt (tgt := 29) dJ1_indexOf_4cfef_24 (by decide) (fun c => ?_) (fun c => absurd (by decide) c)
  refine r_aload_n dJ1_indexOf_4cfef_29 rfl ?_
  refine r_iload_n dJ1_indexOf_4cfef_30 rfl ?_
  refine r_iload_n dJ1_indexOf_4cfef_31 rfl ?_
  refine r_iload_n dJ1_indexOf_4cfef_32 rfl ?_
  refine r_callS0 (d1 := d - 1) (As := [.ref v, .int x, .int 0, .int 8]) dJ1_indexOf_4cfef_33 mf_J1_indexOfChar_4cfef ml_RJ1_95 (ok_ixC hs) rfl rfl (Nat.le_of_ble_eq_true rfl) (by omega) ?_
  exact r_iret dJ1_indexOf_4cfef_36 rfl rfl ⟨rfl, rfl⟩
set_option maxRecDepth 100000 in
set_option maxHeartbeats 1000000 in
theorem ok_ix2 {x : Int32} (hX : GX g) (hs : SKp g 2 a v) (h1 : ¬ x < 0) (h2 : ¬ 255 < x) (hd : 2 ≤ d) : AM g d 0 0 yJ0_indexOf_7cf53 cJ0_indexOf_7cf53 3 (some .int) [.ref a, .int x, .int 0] h (fun r h' => r = some (.int (ixL x.toInt8.toInt32 8 0)) ∧ h' = h) := by
  refine AM.of2 (own := RJ0) (nm := "indexOf") (L0 := [(0, .ref a), (1, .int x), (2, .int 0)]) (by decide) rfl rfl (Nat.le_of_ble_eq_true rfl) rfl ?_
  refine r_aload_n dJ0_indexOf_7cf53_0 rfl ?_
  refine r_callVO (As := []) (d1 := d - 1) (c1 := 0) (n1 := 0) dJ0_indexOf_7cf53_1 mf_J0_isLatin1_aae02 ml_RJ0_492 (ok_isLatin1 hX hs) hs.1 rfl rfl (Nat.le_of_ble_eq_true rfl) (by omega) (Nat.le_refl 0) (Nat.le_refl 0) (fun r h' hh => ?_)
  obtain ⟨rfl, rfl⟩ := hh
  refine r_if_eq (tgt := 23) dJ0_indexOf_7cf53_4 (by decide) (fun c => absurd c (by decide)) (fun c => ?_)
  refine r_aload_n dJ0_indexOf_7cf53_7 rfl ?_
  refine r_getO dJ0_indexOf_7cf53_8 hs.2.2.1 sf_RJ0_9 ?_
  refine r_iload_n dJ0_indexOf_7cf53_11 rfl ?_
  refine r_iload_n dJ0_indexOf_7cf53_12 rfl ?_
  refine r_aload_n dJ0_indexOf_7cf53_13 rfl ?_
  refine r_callVO (As := []) (d1 := d - 1) (c1 := 0) (n1 := 0) dJ0_indexOf_7cf53_14 mf_J0_length_8abf5 ml_RJ0_505 (ok_length hX hs (by decide) (by omega)) hs.1 rfl rfl (Nat.le_of_ble_eq_true rfl) (by omega) (Nat.le_refl 0) (Nat.le_refl 0) (fun r h' hh => ?_)
  obtain ⟨rfl, rfl⟩ := hh
  refine r_callS0 (d1 := d - 1) (As := [.ref v, .int x, .int 0, .int 8]) dJ0_indexOf_7cf53_17 mf_J1_indexOf_4cfef ml_RJ0_637 (ok_lIx hs h1 h2 (by omega)) rfl rfl (Nat.le_of_ble_eq_true rfl) (by omega) ?_
  refine r_goto (tgt := 36) dJ0_indexOf_7cf53_20 (by decide) ?_
  exact r_iret dJ0_indexOf_7cf53_36 rfl rfl ⟨rfl, rfl⟩
set_option maxRecDepth 100000 in
set_option maxHeartbeats 1000000 in
theorem ok_ix {x : Int32} (hX : GX g) (hs : SKp g 2 a v) (h1 : ¬ x < 0) (h2 : ¬ 255 < x) (hd : 3 ≤ d) : AM g d 0 0 yJ0_indexOf_0f7a4 cJ0_indexOf_0f7a4 2 (some .int) [.ref a, .int x] h (fun r h' => r = some (.int (ixL x.toInt8.toInt32 8 0)) ∧ h' = h) := by
  refine AM.of2 (own := RJ0) (nm := "indexOf") (L0 := [(0, .ref a), (1, .int x)]) (by decide) rfl rfl (Nat.le_of_ble_eq_true rfl) rfl ?_
  refine r_aload_n dJ0_indexOf_0f7a4_0 rfl ?_
  refine r_iload_n dJ0_indexOf_0f7a4_1 rfl ?_
  refine r_iconst (v := (0 : Int32)) dJ0_indexOf_0f7a4_2 (by decide) ?_
  refine r_callVO (As := [.int x, .int 0]) (d1 := d - 1) (c1 := 0) (n1 := 0) dJ0_indexOf_0f7a4_3 mf_J0_indexOf_7cf53 ml_RJ0_633 (ok_ix2 hX hs h1 h2 (by omega)) hs.1 rfl rfl (Nat.le_of_ble_eq_true rfl) (by omega) (Nat.le_refl 0) (Nat.le_refl 0) (fun r h' hh => ?_)
  obtain ⟨rfl, rfl⟩ := hh
  exact r_iret dJ0_indexOf_0f7a4_6 rfl rfl ⟨rfl, rfl⟩
end STR
section STR2
variable {g : GC} {own : String} {cc : ByteArray} {nL : Nat} {ret : Option FieldType} {nm : String} {d c n : Nat} {K : Option Value → hH → Prop} {pc : Nat} {L : List (Nat × Value)} {rest : List Value} {h : hH} {k a v : Nat}
theorem s_len {idx : Nat} (hd : decode cc pc = .ok (.invokevirtual idx, 3)) (hl : Cond.methodLink own idx yJ0_length_8abf5 ∈ tb) (hX : GX g) (hs : SKp g k a v) (hk : k < 3) (hcat : (rest.map fun v => v.category).sum ≤ 8) (hd1 : 2 ≤ d) (kk : AW g own cc nL ret nm d c n K (pc + 3) L (.int (nI (sN k)) :: rest) h) : AW g own cc nL ret nm d c n K pc L (.ref a :: rest) h :=
  r_callVO (As := []) (d1 := d - 1) (c1 := 0) (n1 := 0) hd mf_J0_length_8abf5 hl (ok_length hX hs hk (by omega)) hs.1 rfl rfl hcat (by omega) (Nat.zero_le _) (Nat.zero_le _) (fun r h' hh => by obtain ⟨rfl, rfl⟩ := hh; exact kk)
theorem s_char {idx j : Nat} {x : Int32} (hd : decode cc pc = .ok (.invokevirtual idx, 3)) (hl : Cond.methodLink own idx yJ0_charAt_5068e ∈ tb) (hX : GX g) (hs : SKp g k a v) (hk : k < 3) (hx : x = nI j) (hj : j < sN k) (hcat : (rest.map fun v => v.category).sum ≤ 8) (hd1 : 4 ≤ d) (kk : AW g own cc nL ret nm d c n K (pc + 3) L (.int (sB k j) :: rest) h) : AW g own cc nL ret nm d c n K pc L (.int x :: .ref a :: rest) h := by
  subst hx
  exact r_callVO (As := [.int (nI j)]) (d1 := d - 1) (c1 := 0) (n1 := 0) hd mf_J0_charAt_5068e hl (ok_charAt hX hs hk (by omega) hj) hs.1 rfl rfl hcat (by omega) (Nat.zero_le _) (Nat.zero_le _) (fun r h' hh => by obtain ⟨rfl, rfl⟩ := hh; exact kk)
theorem s_ix {idx : Nat} {x : Int32} (hd : decode cc pc = .ok (.invokevirtual idx, 3)) (hl : Cond.methodLink own idx yJ0_indexOf_0f7a4 ∈ tb) (hX : GX g) (hs : SKp g 2 a v) (h1 : ¬ x < 0) (h2 : ¬ 255 < x) (hcat : (rest.map fun v => v.category).sum ≤ 8) (hd1 : 4 ≤ d) (kk : AW g own cc nL ret nm d c n K (pc + 3) L (.int (ixL x.toInt8.toInt32 8 0) :: rest) h) : AW g own cc nL ret nm d c n K pc L (.int x :: .ref a :: rest) h :=
  r_callVO (As := [.int x]) (d1 := d - 1) (c1 := 0) (n1 := 0) hd mf_J0_indexOf_0f7a4 hl (ok_ix hX hs h1 h2 (by omega)) hs.1 rfl rfl hcat (by omega) (Nat.zero_le _) (Nat.zero_le _) (fun r h' hh => by obtain ⟨rfl, rfl⟩ := hh; exact kk)
end STR2
