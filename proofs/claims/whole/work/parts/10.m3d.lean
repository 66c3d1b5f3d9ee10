def f_X10_shows (σ : MSt) (p1 : Int32) (p2 : Int32) : Int32 := (if (f_X10_isBottle σ p1) = 0 then (-2 : Int32) else (if (f_X10_in (Int32.toInt64 p2) (0 : Int64) (5 : Int64)) = 0 then (-2 : Int32) else (if (3 : Int32) ≤ p2 then (f_X10_tastesOf σ p1 (p2 - (3 : Int32))) else (f_X10_showsOf σ p1 p2))))
set_option maxRecDepth 100000 in
set_option maxHeartbeats 1000000 in
theorem ok_X10_shows {g : GC} {E : ME} {d : Nat} (hE : MEok E) (hd : 2 ≤ d) (σ : MSt) (p1 : Int32) (p2 : Int32) (h0 : MInv σ) : MC g E d yX10_shows cX10_shows 3 (some FieldType.int) [.int p1, .int p2] (fun v σ' => v = some (.int (f_X10_shows σ p1 p2)) ∧ σ' = σ) σ := by
  refine AM.of2 (own := RX10) (nm := "shows") (L0 := [(0, .ref E.2.2), (1, .int p1), (2, .int p2)]) (by decide) rfl rfl (Nat.le_of_ble_eq_true rfl) rfl ?_
  refine r_aload_n dX10_shows_0 rfl ?_
  refine r_iload_n dX10_shows_1 rfl ?_
  refine m_callW dX10_shows_2 mf_X10_isBottle ml_RX10_186 (ok_X10_isBottle (d := d - 1) hE (by omega) _ _) rfl rfl rfl (Nat.le_of_ble_eq_true rfl) (by omega) ?_
  refine r_if_eq (tgt := 45) dX10_shows_5 (by decide) (fun c1 => ?_) (fun c1 => ?_)
  · refine r_bipush (v := (-2 : Int32)) dX10_shows_45 (by decide) ?_
    refine r_iret dX10_shows_47 rfl rfl ?_
    exact ⟨_, rfl, by rw [f_X10_shows, if_pos c1], rfl⟩
  · refine r_iload_n dX10_shows_8 rfl ?_
    refine r_i2l dX10_shows_9 ?_
    refine r_lconst (v := (0 : Int64)) dX10_shows_10 (by decide) ?_
    refine r_ldc2 dX10_shows_11 kc_RX10_177 ?_
    refine m_callS dX10_shows_14 mf_X10_in ml_RX10_149 (ok_X10_in (d := d - 1) (by omega) _ _ _) rfl rfl (Nat.le_of_ble_eq_true rfl) (by omega) ?_
    refine r_if_eq (tgt := 45) dX10_shows_17 (by decide) (fun c2 => ?_) (fun c2 => ?_)
    · refine r_bipush (v := (-2 : Int32)) dX10_shows_45 (by decide) ?_
      refine r_iret dX10_shows_47 rfl rfl ?_
      exact ⟨_, rfl, by rw [f_X10_shows, if_neg c1, if_pos c2], rfl⟩
    · refine r_iload_n dX10_shows_20 rfl ?_
      refine r_iconst (v := (3 : Int32)) dX10_shows_21 (by decide) ?_
      refine r_icmp_ge (tgt := 34) dX10_shows_22 (by decide) (fun c3 => ?_) (fun c3 => ?_)
      · refine r_aload_n dX10_shows_34 rfl ?_
        refine r_iload_n dX10_shows_35 rfl ?_
        refine r_iload_n dX10_shows_36 rfl ?_
        refine r_iconst (v := (3 : Int32)) dX10_shows_37 (by decide) ?_
        refine r_isub dX10_shows_38 ?_
        refine m_callW dX10_shows_39 mf_X10_tastesOf ml_RX10_192 (ok_X10_tastesOf (d := d - 1) hE (by omega) _ _ _ (by with_reducible first | assumption | exact isBottle_in h0 (by with_reducible assumption) | exact h0.says _ | exact h0.holds _) (by with_reducible first | assumption | exact isBottle_in h0 (by with_reducible assumption) | exact h0.says _ | exact h0.holds _) (by with_reducible first | assumption | exact isBottle_in h0 (by with_reducible assumption) | exact h0.says _ | exact h0.holds _)) rfl rfl rfl (Nat.le_of_ble_eq_true rfl) (by omega) ?_
        refine r_goto (tgt := 47) dX10_shows_42 (by decide) ?_
        refine r_iret dX10_shows_47 rfl rfl ?_
        exact ⟨_, rfl, by rw [f_X10_shows, if_neg c1, if_neg c2, if_pos c3], rfl⟩
      · refine r_aload_n dX10_shows_25 rfl ?_
        refine r_iload_n dX10_shows_26 rfl ?_
        refine r_iload_n dX10_shows_27 rfl ?_
        refine m_callW dX10_shows_28 mf_X10_showsOf ml_RX10_189 (ok_X10_showsOf (d := d - 1) hE (by omega) _ _ _ (by with_reducible first | assumption | exact isBottle_in h0 (by with_reducible assumption) | exact h0.says _ | exact h0.holds _) (by with_reducible first | assumption | exact isBottle_in h0 (by with_reducible assumption) | exact h0.says _ | exact h0.holds _)) rfl rfl rfl (Nat.le_of_ble_eq_true rfl) (by omega) ?_
        refine r_goto (tgt := 47) dX10_shows_31 (by decide) ?_
        refine r_iret dX10_shows_47 rfl rfl ?_
        exact ⟨_, rfl, by rw [f_X10_shows, if_neg c1, if_neg c2, if_neg c3], rfl⟩
