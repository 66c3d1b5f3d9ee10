/-! the reference's opened -/
/-- alike but for what reading and opening use -/
def SmO (σ σ' : MSt) : Prop := (∀ j, j ≠ 46 → j ≠ 47 → σ'.2.2 j = σ.2.2 j) ∧ ∀ j, j < 27 ∨ 41 < j → σ'.1 j = σ.1 j
theorem SmO.rf (σ : MSt) : SmO σ σ := ⟨fun _ _ _ => rfl, fun _ _ => rfl⟩
theorem SmO.sm {a b c : MSt} (h : SmO a b) (h2 : Sm b c) : SmO a c := ⟨fun j h1 h3 => by rw [h2.1]; exact h.1 j h1 h3, fun j hj => (h2.2 j hj).trans (h.2 j hj)⟩
theorem SmO.ma {a b : MSt} (h : SmO a b) {k i : Nat} {x : Int32} (hk : k = 46 ∨ k = 47) : SmO a (ma b k i x) := ⟨fun j h1 h3 => (ma_j (by omega)).trans (h.1 j h1 h3), h.2⟩
theorem SmO.dv {a b : MSt} (h : SmO a b) : Dv a b := ⟨h.2 26 (by omega), fun j hj => h.1 j (by omega) (by omega)⟩
section SO
variable {σ σ' : MSt}
theorem so_shows (h : SmO σ σ') (b p : Int32) : f_X10_showsOf σ' b p = f_X10_showsOf σ b p := dv_shows h.dv (h.1 10 (by decide) (by decide)) b p
theorem so_bars (h : SmO σ σ') (b p : Int32) : f_X10_bars σ' b p = f_X10_bars σ b p := by
  unfold f_X10_bars
  rw [so_shows h, h.1 7 (by decide) (by decide), h.1 13 (by decide) (by decide), h.1 14 (by decide) (by decide), h.1 17 (by decide) (by decide)]
theorem so_isOdd (h : SmO σ σ') (b p : Int32) : f_X10_isOdd σ' b p = f_X10_isOdd σ b p := by
  unfold f_X10_isOdd
  rw [so_bars h, so_shows h, h.1 10 (by decide) (by decide), h.1 17 (by decide) (by decide)]
theorem so_barsOf (h : SmO σ σ') (b : Int32) : f_X10_barsOf σ' b = f_X10_barsOf σ b := by unfold f_X10_barsOf; simp only [so_bars h]
theorem so_oddsOf (h : SmO σ σ') (b : Int32) : f_X10_oddsOf σ' b = f_X10_oddsOf σ b := by unfold f_X10_oddsOf; simp only [so_isOdd h]
theorem so_soldL (h : SmO σ σ') : ∀ (n : Nat) (a b c : Int32), f_X10_soldOf_L4 n σ' a b c = f_X10_soldOf_L4 n σ a b c
  | 0, _, _, _ => rfl
  | n + 1, a, b, c => by rw [f_X10_soldOf_L4, f_X10_soldOf_L4]; simp only [h.2 20 (by omega), h.1 17 (by decide) (by decide), dv_owner h.dv, so_soldL h n]
theorem so_sold (h : SmO σ σ') (a : Int32) : f_X10_soldOf σ' a = f_X10_soldOf σ a := by unfold f_X10_soldOf; exact so_soldL h _ _ _ _
theorem so_rr (h : SmO σ σ') : rr σ' = rr σ := by unfold rr; rw [h.2 4 (by omega), dv_txt h.dv]
theorem so_envB (h : SmO σ σ') (b : Int32) (i : Nat) (hi : i < 6) : envB σ' b i = envB σ b i := by
  unfold envB
  rw [so_barsOf h, so_oddsOf h, dv_gap h.dv, h.1 17 (by decide) (by decide), h.1 7 (by decide) (by decide), h.1 8 (by decide) (by decide), so_sold h]
  by_cases q : i = 0 <;> by_cases q1 : i = 1 <;> by_cases q2 : i = 2 <;> by_cases q3 : i = 3 <;> by_cases q4 : i = 4 <;> by_cases q5 : i = 5 <;> simp_all
  omega
theorem ROk.so (h : ROk σ) (hs : SmO σ σ') : ROk σ' := by unfold ROk at h ⊢; rw [hs.2 4 (by omega), dv_txt hs.dv]; exact h
theorem so_sy (hr : ROk σ) (h : SmO σ σ') (b wh : Int32) : sy σ' b wh = sy σ b wh := by
  unfold sy
  rw [so_rr h]
  obtain ⟨r, e⟩ := hr
  have er : rr σ = r := by unfold rr; rw [e]
  obtain ⟨a1, a2, a3⟩ := text_six _ e
  rw [er, a1 _ _ (so_envB h b), a2 _ _ (so_envB h b), a3 _ _ (so_envB h b)]
theorem so_dbt (hr : ROk σ) (h : SmO σ σ') (b : Int32) : dbt σ' b = dbt σ b := by unfold dbt; rw [so_sy hr h]
theorem so_opn (hr : ROk σ) (h : SmO σ σ') (b : Int32) : opn σ' b = opn σ b := by unfold opn; rw [so_sy hr h]
theorem MInv.so (h : MInv σ) (hs : SmO σ σ') : MInv σ' := by
  unfold MInv at h ⊢
  have a (j : Nat) (h1 : j ≠ 46) (h2 : j ≠ 47) := hs.1 j h1 h2
  rw [hs.2 12 (by omega), hs.2 20 (by omega), hs.2 26 (by omega), hs.2 3 (by omega), hs.2 6 (by omega), hs.2 4 (by omega), hs.2 53 (by omega), hs.2 54 (by omega), hs.2 55 (by omega), a 17 (by decide) (by decide), a 18 (by decide) (by decide), a 10 (by decide) (by decide), a 19 (by decide) (by decide), a 21 (by decide) (by decide), a 16 (by decide) (by decide), a 42 (by decide) (by decide), a 43 (by decide) (by decide), a 56 (by decide) (by decide), a 58 (by decide) (by decide), a 2 (by decide) (by decide), a 1 (by decide) (by decide), a 5 (by decide) (by decide)]
  exact h
end SO
/-- of the first k bottles those of a set, summed up -/
def sbN (s : Nat) (f : Nat → Int32) : Nat → Int32
  | 0 => 0
  | k + 1 => sbN s f k + (if ((nI s >>> (nI k &&& 31)) &&& (1 : Int32)) = 1 then f k else 0)
/-- a set more looked at -/
def opStep (coin db nd s : Int32) (A : Int32 × Int32 × Int32) : Int32 × Int32 × Int32 := if coin < nd then A else if db < A.2.1 then A else if db = A.2.1 then (if nd < A.2.2 then (s, db, nd) else A) else (s, db, nd)
def opN (coin : Int32) (m : Nat) (D O : Nat → Int32) : Nat → Int32 × Int32 × Int32
  | 0 => (0, -1, 0)
  | s + 1 => opStep coin (sbN s D m) (sbN s O m) (nI s) (opN coin m D O s)
def opM (σ : MSt) : Nat := if (σ.1 20).toNatClampNeg < 10 then (σ.1 20).toNatClampNeg else 10
def opA (σ : MSt) (coin : Int32) : Int32 × Int32 × Int32 := opN coin (opM σ) (fun b => dbt σ (nI b)) (fun b => opn σ (nI b)) (2 ^ opM σ)
def fOp (σ : MSt) (p1 p2 : Int32) : Int32 := if f_X10_in p1.toInt64 0 999 = 0 then -2 else if f_X10_in p2.toInt64 0 2 = 0 then -2 else if p2 = 0 then (opA σ p1).1 else if p2 = 1 then (opA σ p1).2.1 else (opA σ p1).2.2
theorem sh1_tab : ∀ m, m ≤ 10 → (1 : Int32) <<< (nI m &&& 31) = nI (2 ^ m) := by decide +kernel
theorem sbN_cg {f f' : Nat → Int32} (s : Nat) : ∀ k, (∀ i, i < k → f' i = f i) → sbN s f' k = sbN s f k
  | 0, _ => rfl
  | k + 1, h => by rw [sbN, sbN, sbN_cg s k (fun i hi => h i (by omega)), h k (by omega)]

set_option maxRecDepth 100000 in
set_option maxHeartbeats 2000000 in
theorem lp_opened1 {g : GC} {E : ME} {d m : Nat} {σ : MSt} {p1 p2 : Int32} {K : Option Value → MSt → Prop} (hE : MEok E) (hd0 : 43 ≤ d) (h0 : MInv σ) (hr : ROk σ) (hm : m ≤ 10) (hK : ∀ s, SmO σ s → (∀ i, i < m → s.2.2 46 i = dbt σ (nI i)) → (∀ i, i < m → s.2.2 47 i = opn σ (nI i)) → MW g E cX10_opened 11 (some .int) "opened" d K 87 [(0, .ref E.2.2), (1, .int p1), (2, .int p2), (3, .int (nI m))] [] s) : ∀ (n k : Nat) (s : MSt), k ≤ m → m - k < n → SmO σ s → (∀ i, i < k → s.2.2 46 i = dbt σ (nI i)) → (∀ i, i < k → s.2.2 47 i = opn σ (nI i)) → MW g E cX10_opened 11 (some .int) "opened" d K 49 [(0, .ref E.2.2), (1, .int p1), (2, .int p2), (3, .int (nI m)), (4, .int (nI k))] [] s := by
  intro n
  induction n with
  | zero => intro k s _ h; exact absurd h (Nat.not_lt_zero _)
  | succ n ih =>
    intro k s hkm hn hs hD hO
    refine r_iload dX10_opened_49 rfl ?_
    refine r_iload_n dX10_opened_51 rfl ?_
    refine r_icmp_ge (tgt := 87) dX10_opened_52 (by decide) (fun c => ?_) (fun c => ?_)
    · have : m ≤ k := (nI_leI (by omega) (by omega)).mp c
      have e : m = k := by omega
      subst e
      refine r_loc (L' := [(0, .ref E.2.2), (1, .int p1), (2, .int p2), (3, .int (nI m))]) [0, 1, 2, 3] rfl ?_
      exact hK s hs hD hO
    · have hlt : k < m := by rcases Nat.lt_or_ge k m with q | q; exact q; exact absurd (nI_le q (by omega)) c
      have hb : vp_in (nI k) 24 := vp_in_nI (by omega) (by decide)
      have hb2 : vp_in (nI k) 10 := vp_in_nI (by omega) (by decide)
      have ek : (nI k).toNatClampNeg = k := nI_clamp (by omega)
      refine r_aload_n dX10_opened_55 rfl ?_
      refine m_get dX10_opened_56 fl_RX10_86 rfl ?_
      refine r_iload dX10_opened_59 rfl ?_
      refine r_aload_n dX10_opened_61 rfl ?_
      refine r_iload dX10_opened_62 rfl ?_
      refine m_call (As := [.int (nI k)]) dX10_opened_64 mf_X10_doubtOf ml_RX10_221 (mk_doubtOf (d := d - 1) hE (by omega) _ _ (h0.so hs) hb (hr.so hs)) rfl rfl rfl (Nat.le_of_ble_eq_true rfl) (by omega) (fun v s1 k1 => ?_)
      obtain ⟨rfl, hs1⟩ := k1
      rw [so_dbt hr hs]
      have hs1' := hs.sm hs1
      refine m_iast (k := 46) (N := 10) hE (by decide) rfl rfl dX10_opened_67 hb2 ?_
      rw [ek]
      have hs2 : SmO σ (ma s1 46 k (dbt σ (nI k))) := hs1'.ma (Or.inl rfl)
      have hD2 : ∀ i, i < k + 1 → (ma s1 46 k (dbt σ (nI k))).2.2 46 i = dbt σ (nI i) := fun i hi => by
        rw [ma_k]
        by_cases q : i = k
        · rw [q, upd_at]
        · rw [upd_ne q, hs1.1]; exact hD i (by omega)
      have hO2 : ∀ i, i < k → (ma s1 46 k (dbt σ (nI k))).2.2 47 i = opn σ (nI i) := fun i hi => by
        rw [ma_j (by decide), hs1.1]; exact hO i hi
      generalize ma s1 46 k (dbt σ (nI k)) = s2 at hs2 hD2 hO2 ⊢
      refine r_aload_n dX10_opened_68 rfl ?_
      refine m_get dX10_opened_69 fl_RX10_89 rfl ?_
      refine r_iload dX10_opened_72 rfl ?_
      refine r_aload_n dX10_opened_74 rfl ?_
      refine r_iload dX10_opened_75 rfl ?_
      refine m_call (As := [.int (nI k)]) dX10_opened_77 mf_X10_openOf ml_RX10_227 (mk_openOf (d := d - 1) hE (by omega) _ _ (h0.so hs2) hb (hr.so hs2)) rfl rfl rfl (Nat.le_of_ble_eq_true rfl) (by omega) (fun v s3 k3 => ?_)
      obtain ⟨rfl, hs3⟩ := k3
      rw [so_opn hr hs2]
      refine m_iast (k := 47) (N := 10) hE (by decide) rfl rfl dX10_opened_80 hb2 ?_
      rw [ek]
      refine r_iinc2 (w := 1) dX10_opened_81 rfl (by decide) (by decide) ?_
      refine r_goto (tgt := 49) dX10_opened_84 (by decide) ?_
      refine r_loc (L' := [(0, .ref E.2.2), (1, .int p1), (2, .int p2), (3, .int (nI m)), (4, .int (nI (k + 1)))]) [1, 2, 3, 4, 0] (by rw [← nI_1]; rfl) ?_
      refine ih (k + 1) _ (by omega) (by omega) ((hs2.sm hs3).ma (Or.inr rfl)) (fun i hi => ?_) (fun i hi => ?_)
      · rw [ma_j (by decide), hs3.1]; exact hD2 i hi
      · rw [ma_k]
        by_cases q : i = k
        · rw [q, upd_at]
        · rw [upd_ne q, hs3.1]; exact hO2 i (by omega)


set_option maxRecDepth 100000 in
set_option maxHeartbeats 2000000 in
theorem lp_opened3 {g : GC} {E : ME} {d m sx : Nat} {s : MSt} {p1 p2 b4 b5 b6 : Int32} {K : Option Value → MSt → Prop} (hE : MEok E) (hm : m ≤ 10) (hK : MW g E cX10_opened 11 (some .int) "opened" d K 182 [(0, .ref E.2.2), (1, .int p1), (2, .int p2), (3, .int (nI m)), (4, .int b4), (5, .int b5), (6, .int b6), (7, .int (nI sx)), (8, .int (sbN sx (s.2.2 46) m)), (9, .int (sbN sx (s.2.2 47) m))] [] s) : ∀ (n k : Nat), k ≤ m → m - k < n → MW g E cX10_opened 11 (some .int) "opened" d K 116 [(0, .ref E.2.2), (1, .int p1), (2, .int p2), (3, .int (nI m)), (4, .int b4), (5, .int b5), (6, .int b6), (7, .int (nI sx)), (8, .int (sbN sx (s.2.2 46) k)), (9, .int (sbN sx (s.2.2 47) k)), (10, .int (nI k))] [] s := by
  intro n
  induction n with
  | zero => intro k _ h; exact absurd h (Nat.not_lt_zero _)
  | succ n ih =>
    intro k hkm hn
    refine r_iload dX10_opened_116 rfl ?_
    refine r_iload_n dX10_opened_118 rfl ?_
    refine r_icmp_ge (tgt := 182) dX10_opened_119 (by decide) (fun c => ?_) (fun c => ?_)
    · have : m ≤ k := (nI_leI (by omega) (by omega)).mp c
      have e : m = k := by omega
      subst e
      refine r_loc (L' := [(0, .ref E.2.2), (1, .int p1), (2, .int p2), (3, .int (nI m)), (4, .int b4), (5, .int b5), (6, .int b6), (7, .int (nI sx)), (8, .int (sbN sx (s.2.2 46) m)), (9, .int (sbN sx (s.2.2 47) m))]) [0, 1, 2, 3, 4, 5, 6, 7, 8, 9] rfl ?_
      exact hK
    · have hlt : k < m := by rcases Nat.lt_or_ge k m with q | q; exact q; exact absurd (nI_le q (by omega)) c
      have hb2 : vp_in (nI k) 10 := vp_in_nI (by omega) (by decide)
      have ek : (nI k).toNatClampNeg = k := nI_clamp (by omega)
      have key2 : ∀ x : Int32, x = (if ((nI sx >>> (nI k &&& 31)) &&& (1 : Int32)) = 1 then s.2.2 47 k else 0) → MW g E cX10_opened 11 (some .int) "opened" d K 173 [(8, .int (sbN sx (s.2.2 46) (k + 1))), (0, .ref E.2.2), (1, .int p1), (2, .int p2), (3, .int (nI m)), (4, .int b4), (5, .int b5), (6, .int b6), (7, .int (nI sx)), (9, .int (sbN sx (s.2.2 47) k)), (10, .int (nI k))] [.int x, .int (sbN sx (s.2.2 47) k)] s := by
        intro x hx
        refine r_iadd dX10_opened_173 ?_
        refine r_istore dX10_opened_174 (by decide) ?_
        refine r_iinc2 (w := 1) dX10_opened_176 rfl (by decide) (by decide) ?_
        refine r_goto (tgt := 116) dX10_opened_179 (by decide) ?_
        refine r_loc (L' := [(0, .ref E.2.2), (1, .int p1), (2, .int p2), (3, .int (nI m)), (4, .int b4), (5, .int b5), (6, .int b6), (7, .int (nI sx)), (8, .int (sbN sx (s.2.2 46) (k + 1))), (9, .int (sbN sx (s.2.2 47) (k + 1))), (10, .int (nI (k + 1)))]) [3, 4, 5, 6, 7, 8, 9, 10, 2, 1, 0] (by rw [sbN, sbN, ← hx, ← nI_1]; rfl) ?_
        exact ih (k + 1) (by omega) (by omega)
      have key1 : ∀ x : Int32, x = (if ((nI sx >>> (nI k &&& 31)) &&& (1 : Int32)) = 1 then s.2.2 46 k else 0) → MW g E cX10_opened 11 (some .int) "opened" d K 146 [(0, .ref E.2.2), (1, .int p1), (2, .int p2), (3, .int (nI m)), (4, .int b4), (5, .int b5), (6, .int b6), (7, .int (nI sx)), (8, .int (sbN sx (s.2.2 46) k)), (9, .int (sbN sx (s.2.2 47) k)), (10, .int (nI k))] [.int x, .int (sbN sx (s.2.2 46) k)] s := by
        intro x hx
        refine r_iadd dX10_opened_146 ?_
        refine r_istore dX10_opened_147 (by decide) ?_
        refine r_loc (L' := [(8, .int (sbN sx (s.2.2 46) (k + 1))), (0, .ref E.2.2), (1, .int p1), (2, .int p2), (3, .int (nI m)), (4, .int b4), (5, .int b5), (6, .int b6), (7, .int (nI sx)), (9, .int (sbN sx (s.2.2 47) k)), (10, .int (nI k))]) [0, 1, 2, 3, 4, 5, 6, 7, 8, 9, 10] (by rw [sbN, ← hx]; rfl) ?_
        refine r_iload dX10_opened_149 rfl ?_
        refine r_iload dX10_opened_151 rfl ?_
        refine r_iload dX10_opened_153 rfl ?_
        refine r_ishr dX10_opened_155 ?_
        refine r_iconst (v := 1) dX10_opened_156 (by decide) ?_
        refine r_iand dX10_opened_157 ?_
        refine r_iconst (v := 1) dX10_opened_158 (by decide) ?_
        refine r_icmp_ne (tgt := 172) dX10_opened_159 (by decide) (fun c2 => ?_) (fun c2 => ?_)
        · refine r_iconst (v := 0) dX10_opened_172 (by decide) ?_
          exact key2 0 (by rw [if_neg c2])
        · refine r_aload_n dX10_opened_162 rfl ?_
          refine m_get dX10_opened_163 fl_RX10_89 rfl ?_
          refine r_iload dX10_opened_166 rfl ?_
          refine m_iald (k := 47) (N := 10) hE (by decide) rfl rfl dX10_opened_168 hb2 ?_
          rw [ek]
          refine r_goto (tgt := 173) dX10_opened_169 (by decide) ?_
          exact key2 _ (by rw [if_pos c2])
      refine r_iload dX10_opened_122 rfl ?_
      refine r_iload dX10_opened_124 rfl ?_
      refine r_iload dX10_opened_126 rfl ?_
      refine r_ishr dX10_opened_128 ?_
      refine r_iconst (v := 1) dX10_opened_129 (by decide) ?_
      refine r_iand dX10_opened_130 ?_
      refine r_iconst (v := 1) dX10_opened_131 (by decide) ?_
      refine r_icmp_ne (tgt := 145) dX10_opened_132 (by decide) (fun c1 => ?_) (fun c1 => ?_)
      · refine r_iconst (v := 0) dX10_opened_145 (by decide) ?_
        exact key1 0 (by rw [if_neg c1])
      · refine r_aload_n dX10_opened_135 rfl ?_
        refine m_get dX10_opened_136 fl_RX10_86 rfl ?_
        refine r_iload dX10_opened_139 rfl ?_
        refine m_iald (k := 46) (N := 10) hE (by decide) rfl rfl dX10_opened_141 hb2 ?_
        rw [ek]
        refine r_goto (tgt := 146) dX10_opened_142 (by decide) ?_
        exact key1 _ (by rw [if_pos c1])


set_option maxRecDepth 100000 in
set_option maxHeartbeats 2000000 in
theorem lp_opened2 {g : GC} {E : ME} {d m : Nat} {s : MSt} {p1 p2 : Int32} {K : Option Value → MSt → Prop} (hE : MEok E) (hm : m ≤ 10) (hK : MW g E cX10_opened 11 (some .int) "opened" d K 230 [(0, .ref E.2.2), (1, .int p1), (2, .int p2), (3, .int (nI m)), (4, .int (opN p1 m (s.2.2 46) (s.2.2 47) (2 ^ m)).1), (5, .int (opN p1 m (s.2.2 46) (s.2.2 47) (2 ^ m)).2.1), (6, .int (opN p1 m (s.2.2 46) (s.2.2 47) (2 ^ m)).2.2), (7, .int (nI (2 ^ m)))] [] s) : ∀ (n k : Nat), k ≤ 2 ^ m → 2 ^ m - k < n → MW g E cX10_opened 11 (some .int) "opened" d K 99 [(0, .ref E.2.2), (1, .int p1), (2, .int p2), (3, .int (nI m)), (4, .int (opN p1 m (s.2.2 46) (s.2.2 47) k).1), (5, .int (opN p1 m (s.2.2 46) (s.2.2 47) k).2.1), (6, .int (opN p1 m (s.2.2 46) (s.2.2 47) k).2.2), (7, .int (nI k))] [] s := by
  have p2m : 2 ^ m ≤ 1024 := by
    have : 2 ^ m ≤ 2 ^ 10 := Nat.pow_le_pow_right (by decide) hm
    omega
  intro n
  induction n with
  | zero => intro k _ h; exact absurd h (Nat.not_lt_zero _)
  | succ n ih =>
    intro k hkm hn
    refine r_iload dX10_opened_99 rfl ?_
    refine r_iconst (v := 1) dX10_opened_101 (by decide) ?_
    refine r_iload_n dX10_opened_102 rfl ?_
    refine r_ishl dX10_opened_103 ?_
    rw [sh1_tab m hm]
    refine r_icmp_ge (tgt := 230) dX10_opened_104 (by decide) (fun c => ?_) (fun c => ?_)
    · have : 2 ^ m ≤ k := (nI_leI (by omega) (by omega)).mp c
      have e : k = 2 ^ m := by omega
      subst e
      exact hK
    · have hlt : k < 2 ^ m := by rcases Nat.lt_or_ge k (2 ^ m) with q | q; exact q; exact absurd (nI_le q (by omega)) c
      generalize hA : opN p1 m (s.2.2 46) (s.2.2 47) k = A
      obtain ⟨b4, b5, b6⟩ := A
      have key : ∀ x4 x5 x6 : Int32, opStep p1 (sbN k (s.2.2 46) m) (sbN k (s.2.2 47) m) (nI k) (b4, b5, b6) = (x4, x5, x6) → MW g E cX10_opened 11 (some .int) "opened" d K 224 [(0, .ref E.2.2), (1, .int p1), (2, .int p2), (3, .int (nI m)), (4, .int x4), (5, .int x5), (6, .int x6), (7, .int (nI k))] [] s := by
        intro x4 x5 x6 hx
        refine r_iinc2 (w := 1) dX10_opened_224 rfl (by decide) (by decide) ?_
        refine r_goto (tgt := 99) dX10_opened_227 (by decide) ?_
        have eA : opN p1 m (s.2.2 46) (s.2.2 47) (k + 1) = (x4, x5, x6) := by rw [opN, hA]; exact hx
        refine r_loc (L' := [(0, .ref E.2.2), (1, .int p1), (2, .int p2), (3, .int (nI m)), (4, .int (opN p1 m (s.2.2 46) (s.2.2 47) (k + 1)).1), (5, .int (opN p1 m (s.2.2 46) (s.2.2 47) (k + 1)).2.1), (6, .int (opN p1 m (s.2.2 46) (s.2.2 47) (k + 1)).2.2), (7, .int (nI (k + 1)))]) [1, 2, 3, 4, 5, 6, 7, 0] (by rw [eA, ← nI_1]; rfl) ?_
        exact ih (k + 1) (by omega) (by omega)
      refine r_iconst (v := 0) dX10_opened_107 (by decide) ?_
      refine r_istore dX10_opened_108 (by decide) ?_
      refine r_iconst (v := 0) dX10_opened_110 (by decide) ?_
      refine r_istore dX10_opened_111 (by decide) ?_
      refine r_iconst (v := 0) dX10_opened_113 (by decide) ?_
      refine r_istore dX10_opened_114 (by decide) ?_
      refine r_loc (L' := [(0, .ref E.2.2), (1, .int p1), (2, .int p2), (3, .int (nI m)), (4, .int b4), (5, .int b5), (6, .int b6), (7, .int (nI k)), (8, .int (sbN k (s.2.2 46) 0)), (9, .int (sbN k (s.2.2 47) 0)), (10, .int (nI 0))]) [3, 4, 5, 6, 7, 8, 9, 10, 2, 1, 0] rfl ?_
      refine lp_opened3 hE hm ?_ 12 0 (Nat.zero_le _) (by omega)
      refine r_iload dX10_opened_182 rfl ?_
      refine r_iload_n dX10_opened_184 rfl ?_
      refine r_icmp_gt (tgt := 224) dX10_opened_185 (by decide) (fun c1 => ?_) (fun c1 => ?_)
      · refine r_loc (L' := [(0, .ref E.2.2), (1, .int p1), (2, .int p2), (3, .int (nI m)), (4, .int b4), (5, .int b5), (6, .int b6), (7, .int (nI k))]) [0, 1, 2, 3, 4, 5, 6, 7] rfl ?_
        exact key b4 b5 b6 (by unfold opStep; dsimp only; rw [if_pos c1])
      · refine r_iload dX10_opened_188 rfl ?_
        refine r_iload dX10_opened_190 rfl ?_
        refine r_icmp_lt (tgt := 224) dX10_opened_192 (by decide) (fun c2 => ?_) (fun c2 => ?_)
        · refine r_loc (L' := [(0, .ref E.2.2), (1, .int p1), (2, .int p2), (3, .int (nI m)), (4, .int b4), (5, .int b5), (6, .int b6), (7, .int (nI k))]) [0, 1, 2, 3, 4, 5, 6, 7] rfl ?_
          exact key b4 b5 b6 (by unfold opStep; dsimp only; rw [if_neg c1, if_pos c2])
        · refine r_iload dX10_opened_195 rfl ?_
          refine r_iload dX10_opened_197 rfl ?_
          refine r_icmp_ne (tgt := 212) dX10_opened_199 (by decide) (fun c3 => ?_) (fun c3 => ?_)
          · refine r_iload dX10_opened_212 rfl ?_
            refine r_istore dX10_opened_214 (by decide) ?_
            refine r_iload dX10_opened_216 rfl ?_
            refine r_istore dX10_opened_218 (by decide) ?_
            refine r_iload dX10_opened_220 rfl ?_
            refine r_istore dX10_opened_222 (by decide) ?_
            refine r_loc (L' := [(0, .ref E.2.2), (1, .int p1), (2, .int p2), (3, .int (nI m)), (4, .int (nI k)), (5, .int (sbN k (s.2.2 46) m)), (6, .int (sbN k (s.2.2 47) m)), (7, .int (nI k))]) [3, 4, 5, 6, 2, 1, 0, 7] rfl ?_
            exact key _ _ _ (by unfold opStep; dsimp only; rw [if_neg c1, if_neg c2, if_neg c3])
          · refine r_iload dX10_opened_202 rfl ?_
            refine r_iload dX10_opened_204 rfl ?_
            refine r_icmp_lt (tgt := 212) dX10_opened_206 (by decide) (fun c4 => ?_) (fun c4 => ?_)
            · refine r_iload dX10_opened_212 rfl ?_
              refine r_istore dX10_opened_214 (by decide) ?_
              refine r_iload dX10_opened_216 rfl ?_
              refine r_istore dX10_opened_218 (by decide) ?_
              refine r_iload dX10_opened_220 rfl ?_
              refine r_istore dX10_opened_222 (by decide) ?_
              refine r_loc (L' := [(0, .ref E.2.2), (1, .int p1), (2, .int p2), (3, .int (nI m)), (4, .int (nI k)), (5, .int (sbN k (s.2.2 46) m)), (6, .int (sbN k (s.2.2 47) m)), (7, .int (nI k))]) [3, 4, 5, 6, 2, 1, 0, 7] rfl ?_
              exact key _ _ _ (by unfold opStep; dsimp only; rw [if_neg c1, if_neg c2, if_pos c3, if_pos c4])
            · refine r_goto (tgt := 224) dX10_opened_209 (by decide) ?_
              refine r_loc (L' := [(0, .ref E.2.2), (1, .int p1), (2, .int p2), (3, .int (nI m)), (4, .int b4), (5, .int b5), (6, .int b6), (7, .int (nI k))]) [0, 1, 2, 3, 4, 5, 6, 7] rfl ?_
              exact key b4 b5 b6 (by unfold opStep; dsimp only; rw [if_neg c1, if_neg c2, if_pos c3, if_neg c4])

theorem opN_cg {coin : Int32} {m : Nat} {D D' O O' : Nat → Int32} (hD : ∀ i, i < m → D' i = D i) (hO : ∀ i, i < m → O' i = O i) : ∀ s, opN coin m D' O' s = opN coin m D O s
  | 0 => rfl
  | s + 1 => by rw [opN, opN, opN_cg hD hO s, sbN_cg s m hD, sbN_cg s m hO]

set_option maxRecDepth 100000 in
set_option maxHeartbeats 2000000 in
theorem mk_opened {g : GC} {E : ME} {d : Nat} (hE : MEok E) (hd0 : 43 ≤ d) (σ : MSt) (p1 p2 : Int32) (h0 : MInv σ) (hr : ROk σ) : MC g E d yX10_opened cX10_opened 11 (some .int) [.int p1, .int p2] (fun v σ' => v = some (.int (fOp σ p1 p2)) ∧ SmO σ σ') σ := by
  obtain ⟨m0, hm0, h20⟩ := h0.nb
  refine AM.of2 (own := RX10) (nm := "opened") (L0 := [(0, .ref E.2.2), (1, .int p1), (2, .int p2)]) (by decide) rfl rfl (Nat.le_of_ble_eq_true rfl) rfl ?_
  generalize hm : opM σ = m
  have m10 : m ≤ 10 := by
    unfold opM at hm
    rw [h20, nI_clamp (by omega)] at hm
    split at hm <;> omega
  have go : f_X10_in p1.toInt64 0 999 ≠ 0 → f_X10_in p2.toInt64 0 2 ≠ 0 → MW g E cX10_opened 11 (some .int) "opened" d (fun v σ' => v = some (.int (fOp σ p1 p2)) ∧ SmO σ σ') 45 [(0, .ref E.2.2), (1, .int p1), (2, .int p2)] [.int (nI m)] σ := by
    intro n1 n2
    refine r_istore_n dX10_opened_45 (by decide) ?_
    refine r_iconst (v := 0) dX10_opened_46 (by decide) ?_
    refine r_istore dX10_opened_47 (by decide) ?_
    refine r_loc (L' := [(0, .ref E.2.2), (1, .int p1), (2, .int p2), (3, .int (nI m)), (4, .int (nI 0))]) [2, 3, 4, 1, 0] rfl ?_
    refine lp_opened1 hE hd0 h0 hr m10 (fun s hs hD hO => ?_) 12 0 σ (Nat.zero_le _) (by omega) (SmO.rf σ) (fun i hi => absurd hi (Nat.not_lt_zero _)) (fun i hi => absurd hi (Nat.not_lt_zero _))
    refine r_iconst (v := 0) dX10_opened_87 (by decide) ?_
    refine r_istore dX10_opened_88 (by decide) ?_
    refine r_iconst (v := (-1)) dX10_opened_90 (by decide) ?_
    refine r_istore dX10_opened_91 (by decide) ?_
    refine r_iconst (v := 0) dX10_opened_93 (by decide) ?_
    refine r_istore dX10_opened_94 (by decide) ?_
    refine r_iconst (v := 0) dX10_opened_96 (by decide) ?_
    refine r_istore dX10_opened_97 (by decide) ?_
    refine r_loc (L' := [(0, .ref E.2.2), (1, .int p1), (2, .int p2), (3, .int (nI m)), (4, .int (opN p1 m (s.2.2 46) (s.2.2 47) 0).1), (5, .int (opN p1 m (s.2.2 46) (s.2.2 47) 0).2.1), (6, .int (opN p1 m (s.2.2 46) (s.2.2 47) 0).2.2), (7, .int (nI 0))]) [4, 5, 6, 7, 3, 2, 1, 0] rfl ?_
    refine lp_opened2 hE m10 ?_ 1026 0 (Nat.zero_le _) (by have : 2 ^ m ≤ 2 ^ 10 := Nat.pow_le_pow_right (by decide) m10; omega)
    rw [opN_cg hD hO]
    have eA : opA σ p1 = opN p1 m (fun b => dbt σ (nI b)) (fun b => opn σ (nI b)) (2 ^ m) := by unfold opA; rw [hm]
    rw [← eA]
    refine r_iload_n dX10_opened_230 rfl ?_
    refine r_if_ne (tgt := 239) dX10_opened_231 (by decide) (fun c1 => ?_) (fun c1 => ?_)
    · refine r_iload_n dX10_opened_239 rfl ?_
      refine r_iconst (v := 1) dX10_opened_240 (by decide) ?_
      refine r_icmp_ne (tgt := 249) dX10_opened_241 (by decide) (fun c2 => ?_) (fun c2 => ?_)
      · refine r_iload dX10_opened_249 rfl ?_
        refine r_iret dX10_opened_251 rfl rfl ?_
        exact ⟨_, rfl, by unfold fOp; rw [if_neg n1, if_neg n2, if_neg c1, if_neg c2], hs⟩
      · refine r_iload dX10_opened_244 rfl ?_
        refine r_goto (tgt := 251) dX10_opened_246 (by decide) ?_
        refine r_iret dX10_opened_251 rfl rfl ?_
        exact ⟨_, rfl, by unfold fOp; rw [if_neg n1, if_neg n2, if_neg c1, if_pos c2], hs⟩
    · refine r_iload dX10_opened_234 rfl ?_
      refine r_goto (tgt := 251) dX10_opened_236 (by decide) ?_
      refine r_iret dX10_opened_251 rfl rfl ?_
      exact ⟨_, rfl, by unfold fOp; rw [if_neg n1, if_neg n2, if_pos c1], hs⟩
  refine r_iload_n dX10_opened_0 rfl ?_
  refine r_i2l dX10_opened_1 ?_
  refine r_lconst (v := 0) dX10_opened_2 (by decide) ?_
  refine r_ldc2 dX10_opened_3 kc_RX10_157 ?_
  refine m_callS dX10_opened_6 mf_X10_in ml_RX10_149 (ok_X10_in (d := d - 1) (by omega) _ _ _) rfl rfl (Nat.le_of_ble_eq_true rfl) (by omega) ?_
  refine r_if_eq (tgt := 24) dX10_opened_9 (by decide) (fun c1 => ?_) (fun c1 => ?_)
  · refine r_bipush (v := (-2)) dX10_opened_24 (by decide) ?_
    refine r_iret dX10_opened_26 rfl rfl ?_
    exact ⟨_, rfl, by unfold fOp; rw [if_pos c1], SmO.rf _⟩
  · refine r_iload_n dX10_opened_12 rfl ?_
    refine r_i2l dX10_opened_13 ?_
    refine r_lconst (v := 0) dX10_opened_14 (by decide) ?_
    refine r_ldc2 dX10_opened_15 kc_RX10_168 ?_
    refine m_callS dX10_opened_18 mf_X10_in ml_RX10_149 (ok_X10_in (d := d - 1) (by omega) _ _ _) rfl rfl (Nat.le_of_ble_eq_true rfl) (by omega) ?_
    refine r_if_ne (tgt := 27) dX10_opened_21 (by decide) (fun c2 => ?_) (fun c2 => ?_)
    · refine r_aload_n dX10_opened_27 rfl ?_
      refine m_get dX10_opened_28 fl_RX10_174 rfl ?_
      rw [h20]
      refine r_bipush (v := 10) dX10_opened_31 (by decide) ?_
      refine r_icmp_ge (tgt := 43) dX10_opened_33 (by decide) (fun c3 => ?_) (fun c3 => ?_)
      · refine r_bipush (v := 10) dX10_opened_43 (by decide) ?_
        have e : (10 : Int32) = nI m := by
          have : 10 ≤ m0 := (nI_leI (a := 10) (by decide) (by omega)).mp c3
          unfold opM at hm
          rw [h20, nI_clamp (by omega), if_neg (by omega)] at hm
          rw [← hm]; rfl
        rw [e]
        exact go c1 c2
      · refine r_aload_n dX10_opened_36 rfl ?_
        refine m_get dX10_opened_37 fl_RX10_174 rfl ?_
        rw [h20]
        refine r_goto (tgt := 45) dX10_opened_40 (by decide) ?_
        have e : nI m0 = nI m := by
          have : m0 < 10 := by rcases Nat.lt_or_ge m0 10 with q | q; exact q; exact absurd (nI_le (a := 10) q (by omega)) c3
          unfold opM at hm
          rw [h20, nI_clamp (by omega), if_pos this] at hm
          rw [← hm]
        rw [e]
        exact go c1 c2
    · refine r_bipush (v := (-2)) dX10_opened_24 (by decide) ?_
      refine r_iret dX10_opened_26 rfl rfl ?_
      exact ⟨_, rfl, by unfold fOp; rw [if_neg c1, if_pos c2], SmO.rf _⟩
