/-! what the class tells -/
theorem lk2 {z : Int32} (h : ¬ (¬ z < nI 0 ∧ ¬ nI 1 < z)) : Op.lookupswitch.offset (#[(0, 28), (1, 41)] : Array (Int × Int)).toList 54 z.toInt = 54 := by
  have h9 := sw_out (N := 1) (by decide) h
  show (if (0 : Int) = z.toInt then 28 else if (1 : Int) = z.toInt then 41 else 54) = 54
  rw [if_neg (by omega), if_neg (by omega)]
theorem if2n {A B : Prop} [Decidable A] [Decidable B] {α : Type} {x y : α} (h : ¬ (A ∧ B)) : (if A then (if B then x else y) else y) = y := by
  by_cases a : A
  · rw [if_pos a, if_neg (fun b => h ⟨a, b⟩)]
  · rw [if_neg a]
theorem if2p {A B : Prop} [Decidable A] [Decidable B] {α : Type} {x y : α} (h : A ∧ B) : (if A then (if B then x else y) else y) = x := by rw [if_pos h.1, if_pos h.2]
theorem cnt_out {x : Int32} (h : ¬ (¬ x < nI 14 ∧ ¬ nI 18 < x)) (h2 : ¬ (¬ x < nI 0 ∧ ¬ nI 13 < x)) : ¬ (¬ x < nI 0 ∧ ¬ nI 18 < x) := by
  simp only [i_lt, i_nI (show 14 < 2147483648 by decide), i_nI (show 18 < 2147483648 by decide), i_nI (show 0 < 2147483648 by decide), i_nI (show 13 < 2147483648 by decide)] at *
  omega
theorem lack_x {x : Int32} (h : (-1) ≤ x) (h2 : ¬ x = (-1)) : ¬ x < 0 := by
  rw [i_le, i_m1] at h
  rw [i_eq, i_m1] at h2
  rw [i_lt, i_0]
  omega
theorem VT.hb {M : Nat → Int32} {cn q tm : Nat} (h : VT M cn q tm) : HB M (3600 * tm) ∧ (3600 * (tm : Int) < 1000000000) := ⟨h.1.2.2.2.1, by have := h.2.2; omega⟩
theorem cx_Ls {p : Program} {s : State} {m : MethodId} {args : Array Value} {meth : Method} {c : Code} {γ : Gm} {y : MethodName} {cc : ByteArray} {nL : Nat} {ret : Option FieldType} (X : Cx p s m args meth c γ y cc nL ret) : (va_Z "BallastTrain" "LEAST_SETTING" "[I" (.ref (γ.2.2.2 0)) (Ag γ) s s.heap ∧ va_T .int (γ.2.2.2 0) 5 (fun j => .int (lstS j)) (Ag γ) s s.heap) ∧ (va_Z "BallastTrain" "MOST_SETTING" "[I" (.ref (γ.2.2.2 1)) (Ag γ) s s.heap ∧ va_T .int (γ.2.2.2 1) 5 (fun j => .int (mstS j)) (Ag γ) s s.heap) := ⟨(cx_env X).2.2.1.1, (cx_env X).2.2.1.2.1⟩
set_option maxHeartbeats 4000000 in
set_option maxRecDepth 100000 in
theorem c_X6_wagon (l : Launch) (γ : Gm) (W : Wd) (nc : Nat) (M P T : Nat → Int32) (u t cn q tm : Nat) (hI : CI γ W nc M P T u t cn q tm) (x z : Int32) : Cr l γ yX6_wagon cX6_wagon 3 (some .int) 3 67 0 0 [.ref γ.1, .int x, .int z] (rdw γ W) (Det (some (.int (s_wag M cn x z))) (rdw γ W)) := by
  refine Cr_of [some (.ref γ.1), some (.int x), some (.int z)] (by decide +kernel) (Nat.le_of_ble_eq_true rfl) rfl ?_
  intro p e s m args below meth c X
  refine v_q0 (fun Q0 hQ0 => ?_)
  have hI0 := hI
  obtain ⟨hM, hV, hF, hL1, hL8, hH, hX, hN⟩ := hI0
  obtain ⟨hVS, hT, hT9⟩ := hV
  obtain ⟨⟨hc, h1, h6⟩, hOQ, hTP, hHB, hSR⟩ := hVS
  have h10 := hOQ.2.1
  have hB9 : 3600 * (tm : Int) < 1000000000 := by omega
  refine v_eqh (CI_w hI) ?_
  refine v_aload_n X rfl dX6_wagon_0 ?_
  refine v_getf X fd_X6_19 (rd_BT γ _) rfl dX6_wagon_1 ?_
  refine v_getf X fd_X6_65 (rd_State γ _ _ (by decide)) rfl dX6_wagon_4 ?_
  refine v_iload_n X rfl dX6_wagon_7 ?_
  refine v_callV (ci := 5) X mv_X6_82 (c_X5_hasWagon l γ W M 0 (by decide) cn hc h6 h1 x) rfl rfl (rd_Train γ _ _ (by decide)) rfl ⟨Nat.le_of_ble_eq_true rfl, Nat.le_of_ble_eq_true rfl, Nat.le_of_ble_eq_true rfl, Nat.le_of_ble_eq_true rfl⟩ (Nat.le_of_ble_eq_true rfl) rfl dX6_wagon_8 rfl (det_i ?_)
  refine v_if_ne_b (tgt := 18) X dX6_wagon_11 (by decide) (fun q1 => ?_) (fun q1 => ?_)
  · obtain ⟨a1, ha1, rfl⟩ := in_nat (by omega) q1
    refine v_iload_n X rfl dX6_wagon_18 ?_
    by_cases hsw : ¬ z < nI 0 ∧ ¬ nI 4 < z
    · obtain ⟨jj, hjj, rfl⟩ := in_nat (by decide) hsw
      rcases (by omega : jj = 0 ∨ jj = 1 ∨ jj = 2 ∨ jj = 3 ∨ jj = 4) with rfl | rfl | rfl | rfl | rfl
      · refine v_tableIn (tgt := 52) (off := 33) X dX6_wagon_19 (by decide) (by decide) (by decide) (by decide) ?_
        refine v_aload_n X rfl dX6_wagon_52 ?_
        refine v_getf X fd_X6_19 (rd_BT γ _) rfl dX6_wagon_53 ?_
        refine v_getf X fd_X6_65 (rd_State γ _ _ (by decide)) rfl dX6_wagon_56 ?_
        refine v_getf X fd_X6_88 (rd_Train γ _ _ (by decide)) rfl dX6_wagon_59 ?_
        refine v_iload_n X rfl dX6_wagon_62 ?_
        refine v_iald' X (v := (M (120 + 8 * (a1)))) (rd_Load γ _ _ (by decide)) (a1) rfl (by omega) (by decide) (vw_at (by omega)) dX6_wagon_63 ?_
        subst hQ0
        exact v_iret X rfl (Nat.le_of_ble_eq_true rfl) (Nat.le_of_ble_eq_true rfl) dX6_wagon_64 ⟨so_some (by unfold s_wag; first | exact (if_neg q1).symm | (rw [if_pos q1, if_neg hsw]) | (rw [if_pos q1, if_pos (nI_in0 (by decide) (by decide)), nI_clamp (by omega), nI_clamp (by decide)] <;> rfl)), (CI_w hI).symm⟩
      · refine v_tableIn (tgt := 65) (off := 46) X dX6_wagon_19 (by decide) (by decide) (by decide) (by decide) ?_
        refine v_aload_n X rfl dX6_wagon_65 ?_
        refine v_getf X fd_X6_19 (rd_BT γ _) rfl dX6_wagon_66 ?_
        refine v_getf X fd_X6_65 (rd_State γ _ _ (by decide)) rfl dX6_wagon_69 ?_
        refine v_iload_n X rfl dX6_wagon_72 ?_
        refine v_callV (ci := 5) X mv_X6_164 (c_X5_cellBelow l γ W M 0 (by decide) a1 (by omega)) rfl rfl (rd_Train γ _ _ (by decide)) rfl ⟨Nat.le_of_ble_eq_true rfl, Nat.le_of_ble_eq_true rfl, Nat.le_of_ble_eq_true rfl, Nat.le_of_ble_eq_true rfl⟩ (Nat.le_of_ble_eq_true rfl) rfl dX6_wagon_73 rfl (det_i ?_)
        subst hQ0
        exact v_iret X rfl (Nat.le_of_ble_eq_true rfl) (Nat.le_of_ble_eq_true rfl) dX6_wagon_76 ⟨so_some (by unfold s_wag; first | exact (if_neg q1).symm | (rw [if_pos q1, if_neg hsw]) | (rw [if_pos q1, if_pos (nI_in0 (by decide) (by decide)), nI_clamp (by omega), nI_clamp (by decide)] <;> rfl)), (CI_w hI).symm⟩
      · refine v_tableIn (tgt := 77) (off := 58) X dX6_wagon_19 (by decide) (by decide) (by decide) (by decide) ?_
        refine v_aload_n X rfl dX6_wagon_77 ?_
        refine v_getf X fd_X6_19 (rd_BT γ _) rfl dX6_wagon_78 ?_
        refine v_getf X fd_X6_65 (rd_State γ _ _ (by decide)) rfl dX6_wagon_81 ?_
        refine v_iload_n X rfl dX6_wagon_84 ?_
        refine v_callV (ci := 5) X mv_X6_168 (c_X5_sumOfLevels l γ W M 0 (by decide) cn hc h6 a1 (by omega)) rfl rfl (rd_Train γ _ _ (by decide)) rfl ⟨Nat.le_of_ble_eq_true rfl, Nat.le_of_ble_eq_true rfl, Nat.le_of_ble_eq_true rfl, Nat.le_of_ble_eq_true rfl⟩ (Nat.le_of_ble_eq_true rfl) rfl dX6_wagon_85 rfl (det_i ?_)
        subst hQ0
        exact v_iret X rfl (Nat.le_of_ble_eq_true rfl) (Nat.le_of_ble_eq_true rfl) dX6_wagon_88 ⟨so_some (by unfold s_wag; first | exact (if_neg q1).symm | (rw [if_pos q1, if_neg hsw]) | (rw [if_pos q1, if_pos (nI_in0 (by decide) (by decide)), nI_clamp (by omega), nI_clamp (by decide)] <;> rfl)), (CI_w hI).symm⟩
      · refine v_tableIn (tgt := 89) (off := 70) X dX6_wagon_19 (by decide) (by decide) (by decide) (by decide) ?_
        refine v_aload_n X rfl dX6_wagon_89 ?_
        refine v_getf X fd_X6_19 (rd_BT γ _) rfl dX6_wagon_90 ?_
        refine v_getf X fd_X6_65 (rd_State γ _ _ (by decide)) rfl dX6_wagon_93 ?_
        refine v_iload_n X rfl dX6_wagon_96 ?_
        refine v_callV (ci := 5) X mv_X6_171 (c_X5_closingDoors l γ W M 0 (by decide) cn hc h6 a1 (by omega)) rfl rfl (rd_Train γ _ _ (by decide)) rfl ⟨Nat.le_of_ble_eq_true rfl, Nat.le_of_ble_eq_true rfl, Nat.le_of_ble_eq_true rfl, Nat.le_of_ble_eq_true rfl⟩ (Nat.le_of_ble_eq_true rfl) rfl dX6_wagon_97 rfl (det_i ?_)
        subst hQ0
        exact v_iret X rfl (Nat.le_of_ble_eq_true rfl) (Nat.le_of_ble_eq_true rfl) dX6_wagon_100 ⟨so_some (by unfold s_wag; first | exact (if_neg q1).symm | (rw [if_pos q1, if_neg hsw]) | (rw [if_pos q1, if_pos (nI_in0 (by decide) (by decide)), nI_clamp (by omega), nI_clamp (by decide)] <;> rfl)), (CI_w hI).symm⟩
      · refine v_tableIn (tgt := 101) (off := 82) X dX6_wagon_19 (by decide) (by decide) (by decide) (by decide) ?_
        refine v_aload_n X rfl dX6_wagon_101 ?_
        refine v_getf X fd_X6_19 (rd_BT γ _) rfl dX6_wagon_102 ?_
        refine v_getf X fd_X6_65 (rd_State γ _ _ (by decide)) rfl dX6_wagon_105 ?_
        refine v_getf X fd_X6_174 (rd_Train γ _ _ (by decide)) rfl dX6_wagon_108 ?_
        refine v_iload_n X rfl dX6_wagon_111 ?_
        refine v_iald' X (v := (M (f_left (a1)))) (rd_Left γ _ _ (by decide)) (a1) rfl (by omega) (by decide) (vw_at (by omega)) dX6_wagon_112 ?_
        rw [f_leftA]
        subst hQ0
        exact v_iret X rfl (Nat.le_of_ble_eq_true rfl) (Nat.le_of_ble_eq_true rfl) dX6_wagon_113 ⟨so_some (by unfold s_wag; first | exact (if_neg q1).symm | (rw [if_pos q1, if_neg hsw]) | (rw [if_pos q1, if_pos (nI_in0 (by decide) (by decide)), nI_clamp (by omega), nI_clamp (by decide)] <;> rfl)), (CI_w hI).symm⟩
    · refine v_tableOut (tgt := 114) X dX6_wagon_19 (sw_out (by decide) hsw) (by decide) ?_
      refine v_sipush' X ks_m1002 dX6_wagon_114 ?_
      subst hQ0
      exact v_iret X rfl (Nat.le_of_ble_eq_true rfl) (Nat.le_of_ble_eq_true rfl) dX6_wagon_117 ⟨so_some (by unfold s_wag; first | exact (if_neg q1).symm | (rw [if_pos q1, if_neg hsw]) | (rw [if_pos q1, if_pos (nI_in0 (by decide) (by decide)), nI_clamp (by omega), nI_clamp (by decide)] <;> rfl)), (CI_w hI).symm⟩
  · refine v_sipush' X ks_m1002 dX6_wagon_14 ?_
    subst hQ0
    exact v_iret X rfl (Nat.le_of_ble_eq_true rfl) (Nat.le_of_ble_eq_true rfl) dX6_wagon_17 ⟨so_some (by unfold s_wag; first | exact (if_neg q1).symm | (rw [if_pos q1, if_neg hsw]) | (rw [if_pos q1, if_pos (nI_in0 (by decide) (by decide)), nI_clamp (by omega), nI_clamp (by decide)] <;> rfl)), (CI_w hI).symm⟩
set_option maxHeartbeats 4000000 in
set_option maxRecDepth 100000 in
theorem c_X6_doorOf (l : Launch) (γ : Gm) (W : Wd) (nc : Nat) (M P T : Nat → Int32) (u t cn q tm : Nat) (hI : CI γ W nc M P T u t cn q tm) (x y z : Int32) : Cr l γ yX6_doorOf cX6_doorOf 4 (some .int) 2 44 0 0 [.ref γ.1, .int x, .int y, .int z] (rdw γ W) (Det (some (.int (s_door M cn x y z))) (rdw γ W)) := by
  refine Cr_of [some (.ref γ.1), some (.int x), some (.int y), some (.int z)] (by decide +kernel) (Nat.le_of_ble_eq_true rfl) rfl ?_
  intro p e s m args below meth c X
  refine v_q0 (fun Q0 hQ0 => ?_)
  have hI0 := hI
  obtain ⟨hM, hV, hF, hL1, hL8, hH, hX, hN⟩ := hI0
  obtain ⟨hVS, hT, hT9⟩ := hV
  obtain ⟨⟨hc, h1, h6⟩, hOQ, hTP, hHB, hSR⟩ := hVS
  have h10 := hOQ.2.1
  have hB9 : 3600 * (tm : Int) < 1000000000 := by omega
  refine v_eqh (CI_w hI) ?_
  refine v_aload_n X rfl dX6_doorOf_0 ?_
  refine v_getf X fd_X6_19 (rd_BT γ _) rfl dX6_doorOf_1 ?_
  refine v_getf X fd_X6_65 (rd_State γ _ _ (by decide)) rfl dX6_doorOf_4 ?_
  refine v_iload_n X rfl dX6_doorOf_7 ?_
  refine v_iload_n X rfl dX6_doorOf_8 ?_
  refine v_callV (ci := 5) X mv_X6_94 (c_X5_hasDoor l γ W M 0 (by decide) cn hc h6 h1 x y) rfl rfl (rd_Train γ _ _ (by decide)) rfl ⟨Nat.le_of_ble_eq_true rfl, Nat.le_of_ble_eq_true rfl, Nat.le_of_ble_eq_true rfl, Nat.le_of_ble_eq_true rfl⟩ (Nat.le_of_ble_eq_true rfl) rfl dX6_doorOf_9 rfl (det_i ?_)
  refine v_if_ne_b (tgt := 19) X dX6_doorOf_12 (by decide) (fun q1 => ?_) (fun q1 => ?_)
  · obtain ⟨a1, ha1, rfl⟩ := in_nat (by omega) q1.1
    obtain ⟨b1, hb1, rfl⟩ := in_nat (by decide) q1.2
    refine v_iload_n X rfl dX6_doorOf_19 ?_
    by_cases hsw : ¬ z < nI 0 ∧ ¬ nI 1 < z
    · obtain ⟨jj, hjj, rfl⟩ := in_nat (by decide) hsw
      rcases (by omega : jj = 0 ∨ jj = 1) with rfl | rfl
      · refine v_lookup (tgt := 48) (off := 28) X dX6_doorOf_20 (by decide) (by decide) (by decide) ?_
        refine v_aload_n X rfl dX6_doorOf_48 ?_
        refine v_getf X fd_X6_19 (rd_BT γ _) rfl dX6_doorOf_49 ?_
        refine v_getf X fd_X6_65 (rd_State γ _ _ (by decide)) rfl dX6_doorOf_52 ?_
        refine v_iload_n X rfl dX6_doorOf_55 ?_
        refine v_iload_n X rfl dX6_doorOf_56 ?_
        refine v_callV (ci := 5) X mv_X6_98 (c_X5_levelOf l γ W M 0 (by decide) cn hc h6 a1 b1 (by omega) (by omega)) rfl rfl (rd_Train γ _ _ (by decide)) rfl ⟨Nat.le_of_ble_eq_true rfl, Nat.le_of_ble_eq_true rfl, Nat.le_of_ble_eq_true rfl, Nat.le_of_ble_eq_true rfl⟩ (Nat.le_of_ble_eq_true rfl) rfl dX6_doorOf_57 rfl (det_i ?_)
        subst hQ0
        exact v_iret X rfl (Nat.le_of_ble_eq_true rfl) (Nat.le_of_ble_eq_true rfl) dX6_doorOf_60 ⟨so_some (by unfold s_door; first | exact (if2n q1).symm | (rw [if2p q1]; exact (if_neg hsw).symm) | (rw [if2p q1, if_pos (nI_in0 (by decide) (by decide)), nI_clamp (by omega), nI_clamp (by omega)] <;> rfl)), (CI_w hI).symm⟩
      · refine v_lookup (tgt := 61) (off := 41) X dX6_doorOf_20 (by decide) (by decide) (by decide) ?_
        refine v_aload_n X rfl dX6_doorOf_61 ?_
        refine v_getf X fd_X6_19 (rd_BT γ _) rfl dX6_doorOf_62 ?_
        refine v_getf X fd_X6_65 (rd_State γ _ _ (by decide)) rfl dX6_doorOf_65 ?_
        refine v_iload_n X rfl dX6_doorOf_68 ?_
        refine v_iload_n X rfl dX6_doorOf_69 ?_
        refine v_callV (ci := 5) X mv_X6_177 (c_X5_restOf l γ W M 0 (by decide) cn hc h6 a1 b1 (by omega) (by omega)) rfl rfl (rd_Train γ _ _ (by decide)) rfl ⟨Nat.le_of_ble_eq_true rfl, Nat.le_of_ble_eq_true rfl, Nat.le_of_ble_eq_true rfl, Nat.le_of_ble_eq_true rfl⟩ (Nat.le_of_ble_eq_true rfl) rfl dX6_doorOf_70 rfl (det_i ?_)
        subst hQ0
        exact v_iret X rfl (Nat.le_of_ble_eq_true rfl) (Nat.le_of_ble_eq_true rfl) dX6_doorOf_73 ⟨so_some (by unfold s_door; first | exact (if2n q1).symm | (rw [if2p q1]; exact (if_neg hsw).symm) | (rw [if2p q1, if_pos (nI_in0 (by decide) (by decide)), nI_clamp (by omega), nI_clamp (by omega)] <;> rfl)), (CI_w hI).symm⟩
    · refine v_lookup (tgt := 74) (off := 54) X dX6_doorOf_20 (by decide) (lk2 hsw) (by decide) ?_
      refine v_sipush' X ks_m1002 dX6_doorOf_74 ?_
      subst hQ0
      exact v_iret X rfl (Nat.le_of_ble_eq_true rfl) (Nat.le_of_ble_eq_true rfl) dX6_doorOf_77 ⟨so_some (by unfold s_door; first | exact (if2n q1).symm | (rw [if2p q1]; exact (if_neg hsw).symm) | (rw [if2p q1, if_pos (nI_in0 (by decide) (by decide)), nI_clamp (by omega), nI_clamp (by omega)] <;> rfl)), (CI_w hI).symm⟩
  · refine v_sipush' X ks_m1002 dX6_doorOf_15 ?_
    subst hQ0
    exact v_iret X rfl (Nat.le_of_ble_eq_true rfl) (Nat.le_of_ble_eq_true rfl) dX6_doorOf_18 ⟨so_some (by unfold s_door; first | exact (if2n q1).symm | (rw [if2p q1]; exact (if_neg hsw).symm) | (rw [if2p q1, if_pos (nI_in0 (by decide) (by decide)), nI_clamp (by omega), nI_clamp (by omega)] <;> rfl)), (CI_w hI).symm⟩
set_option maxHeartbeats 4000000 in
set_option maxRecDepth 100000 in
theorem c_X6_height (l : Launch) (γ : Gm) (W : Wd) (nc : Nat) (M P T : Nat → Int32) (u t cn q tm : Nat) (hI : CI γ W nc M P T u t cn q tm) (x y : Int32) : Cr l γ yX6_height cX6_height 3 (some .int) 2 43 0 0 [.ref γ.1, .int x, .int y] (rdw γ W) (Det (some (.int (s_height M x y))) (rdw γ W)) := by
  refine Cr_of [some (.ref γ.1), some (.int x), some (.int y)] (by decide +kernel) (Nat.le_of_ble_eq_true rfl) rfl ?_
  intro p e s m args below meth c X
  refine v_q0 (fun Q0 hQ0 => ?_)
  have hI0 := hI
  obtain ⟨hM, hV, hF, hL1, hL8, hH, hX, hN⟩ := hI0
  obtain ⟨hVS, hT, hT9⟩ := hV
  obtain ⟨⟨hc, h1, h6⟩, hOQ, hTP, hHB, hSR⟩ := hVS
  have h10 := hOQ.2.1
  have hB9 : 3600 * (tm : Int) < 1000000000 := by omega
  refine v_eqh (CI_w hI) ?_
  refine v_iload_n X rfl dX6_height_0 ?_
  refine v_iload_n X rfl dX6_height_1 ?_
  refine v_callS X ms_X6_139 (c_X4_has l γ _ _ _) rfl ⟨Nat.le_of_ble_eq_true rfl, Nat.le_of_ble_eq_true rfl, Nat.le_of_ble_eq_true rfl, Nat.le_of_ble_eq_true rfl⟩ (Nat.le_of_ble_eq_true rfl) rfl dX6_height_2 rfl (det_i ?_)
  refine v_if_eq_b (tgt := 23) X dX6_height_5 (by decide) (fun q1 => ?_) (fun q1 => ?_)
  · refine v_sipush' X ks_m1002 dX6_height_23 ?_
    subst hQ0
    exact v_iret X rfl (Nat.le_of_ble_eq_true rfl) (Nat.le_of_ble_eq_true rfl) dX6_height_26 ⟨so_some (by unfold s_height; first | exact (if2n q1).symm | (rw [if2p q1, nI_clamp (by omega), nI_clamp (by omega)])), (CI_w hI).symm⟩
  · obtain ⟨a1, ha1, rfl⟩ := in_nat (by decide) q1.1
    obtain ⟨b1, hb1, rfl⟩ := in_nat (by decide) q1.2
    refine v_aload_n X rfl dX6_height_8 ?_
    refine v_getf X fd_X6_19 (rd_BT γ _) rfl dX6_height_9 ?_
    refine v_getf X fd_X6_144 (rd_State γ _ _ (by decide)) rfl dX6_height_12 ?_
    refine v_iload_n X rfl dX6_height_15 ?_
    refine v_iload_n X rfl dX6_height_16 ?_
    refine v_callV (ci := 4) X mv_X6_148 (c_X4_heightAt l γ W M 0 (by decide) a1 b1 (by omega) (by omega)) rfl rfl (rd_Track γ _ _ (by decide)) rfl ⟨Nat.le_of_ble_eq_true rfl, Nat.le_of_ble_eq_true rfl, Nat.le_of_ble_eq_true rfl, Nat.le_of_ble_eq_true rfl⟩ (Nat.le_of_ble_eq_true rfl) rfl dX6_height_17 rfl (det_i ?_)
    refine v_goto (tgt := 26) X dX6_height_20 (by decide) ?_
    subst hQ0
    exact v_iret X rfl (Nat.le_of_ble_eq_true rfl) (Nat.le_of_ble_eq_true rfl) dX6_height_26 ⟨so_some (by unfold s_height; first | exact (if2n q1).symm | (rw [if2p q1, nI_clamp (by omega), nI_clamp (by omega)])), (CI_w hI).symm⟩
set_option maxHeartbeats 4000000 in
set_option maxRecDepth 100000 in
theorem c_X6_count (l : Launch) (γ : Gm) (W : Wd) (nc : Nat) (M P T : Nat → Int32) (u t cn q tm : Nat) (hI : CI γ W nc M P T u t cn q tm) (x : Int32) : Cr l γ yX6_count cX6_count 2 (some .int) 2 45 0 0 [.ref γ.1, .int x] (rdw γ W) (Det (some (.int (s_count M cn u t x))) (rdw γ W)) := by
  refine Cr_of [some (.ref γ.1), some (.int x)] (by decide +kernel) (Nat.le_of_ble_eq_true rfl) rfl ?_
  intro p e s m args below meth c X
  refine v_q0 (fun Q0 hQ0 => ?_)
  have hI0 := hI
  obtain ⟨hM, hV, hF, hL1, hL8, hH, hX, hN⟩ := hI0
  obtain ⟨hVS, hT, hT9⟩ := hV
  obtain ⟨⟨hc, h1, h6⟩, hOQ, hTP, hHB, hSR⟩ := hVS
  have h10 := hOQ.2.1
  have hB9 : 3600 * (tm : Int) < 1000000000 := by omega
  refine v_eqh (CI_w hI) ?_
  obtain ⟨row, hLB, hLR⟩ := hF
  obtain ⟨nx, hn1, hn2, -⟩ := hH
  refine v_iload_n X rfl dX6_count_0 ?_
  refine v_bipush' X kb_14 dX6_count_1 ?_
  refine v_bipush' X kb_18 dX6_count_3 ?_
  refine v_callS X ms_X6_33 (c_X6_isWithin l γ _ _ _ _) rfl ⟨Nat.le_of_ble_eq_true rfl, Nat.le_of_ble_eq_true rfl, Nat.le_of_ble_eq_true rfl, Nat.le_of_ble_eq_true rfl⟩ (Nat.le_of_ble_eq_true rfl) rfl dX6_count_5 rfl (det_i ?_)
  refine v_if_eq_b (tgt := 24) X dX6_count_8 (by decide) (fun q1 => ?_) (fun q1 => ?_)
  · refine v_iload_n X rfl dX6_count_24 ?_
    by_cases hsw : ¬ x < nI 0 ∧ ¬ nI 13 < x
    · obtain ⟨jj, hjj, rfl⟩ := in_nat (by decide) hsw
      rcases (by omega : jj = 0 ∨ jj = 1 ∨ jj = 2 ∨ jj = 3 ∨ jj = 4 ∨ jj = 5 ∨ jj = 6 ∨ jj = 7 ∨ jj = 8 ∨ jj = 9 ∨ jj = 10 ∨ jj = 11 ∨ jj = 12 ∨ jj = 13) with rfl | rfl | rfl | rfl | rfl | rfl | rfl | rfl | rfl | rfl | rfl | rfl | rfl | rfl
      · refine v_tableIn (tgt := 96) (off := 71) X dX6_count_25 (by decide) (by decide) (by decide) (by decide) ?_
        refine v_aload_n X rfl dX6_count_96 ?_
        refine v_getf X fd_X6_19 (rd_BT γ _) rfl dX6_count_97 ?_
        refine v_getf X fd_X6_65 (rd_State γ _ _ (by decide)) rfl dX6_count_100 ?_
        refine v_getf X (v := .int (M 218)) fd_X6_223 (rd_Train γ _ _ (by decide)) rfl dX6_count_103 ?_
        subst hQ0
        exact v_iret X rfl (Nat.le_of_ble_eq_true rfl) (Nat.le_of_ble_eq_true rfl) dX6_count_106 ⟨so_some (by unfold s_count; first | (rw [if_neg (cnt_out q1 hsw)]) | (rw [if_pos (nI_in0 (by omega) (by decide)), nI_clamp (by omega)]; first | exact ecnt | rfl)), (CI_w hI).symm⟩
      · refine v_tableIn (tgt := 107) (off := 82) X dX6_count_25 (by decide) (by decide) (by decide) (by decide) ?_
        refine v_aload_n X rfl dX6_count_107 ?_
        refine v_getf X fd_X6_19 (rd_BT γ _) rfl dX6_count_108 ?_
        refine v_getf X fd_X6_65 (rd_State γ _ _ (by decide)) rfl dX6_count_111 ?_
        refine v_getf X (v := .int (M 219)) fd_X6_136 (rd_Train γ _ _ (by decide)) rfl dX6_count_114 ?_
        subst hQ0
        exact v_iret X rfl (Nat.le_of_ble_eq_true rfl) (Nat.le_of_ble_eq_true rfl) dX6_count_117 ⟨so_some (by unfold s_count; first | (rw [if_neg (cnt_out q1 hsw)]) | (rw [if_pos (nI_in0 (by omega) (by decide)), nI_clamp (by omega)]; first | exact ecnt | rfl)), (CI_w hI).symm⟩
      · refine v_tableIn (tgt := 118) (off := 93) X dX6_count_25 (by decide) (by decide) (by decide) (by decide) ?_
        refine v_aload_n X rfl dX6_count_118 ?_
        refine v_getf X fd_X6_19 (rd_BT γ _) rfl dX6_count_119 ?_
        refine v_getf X fd_X6_65 (rd_State γ _ _ (by decide)) rfl dX6_count_122 ?_
        refine v_getf X (v := .int (M 220)) fd_X6_85 (rd_Train γ _ _ (by decide)) rfl dX6_count_125 ?_
        subst hQ0
        exact v_iret X rfl (Nat.le_of_ble_eq_true rfl) (Nat.le_of_ble_eq_true rfl) dX6_count_128 ⟨so_some (by unfold s_count; first | (rw [if_neg (cnt_out q1 hsw)]) | (rw [if_pos (nI_in0 (by omega) (by decide)), nI_clamp (by omega)]; first | exact ecnt | rfl)), (CI_w hI).symm⟩
      · refine v_tableIn (tgt := 129) (off := 104) X dX6_count_25 (by decide) (by decide) (by decide) (by decide) ?_
        refine v_aload_n X rfl dX6_count_129 ?_
        refine v_getf X fd_X6_19 (rd_BT γ _) rfl dX6_count_130 ?_
        refine v_getf X fd_X6_65 (rd_State γ _ _ (by decide)) rfl dX6_count_133 ?_
        refine v_getf X (v := .int (M 221)) fd_X6_109 (rd_Train γ _ _ (by decide)) rfl dX6_count_136 ?_
        subst hQ0
        exact v_iret X rfl (Nat.le_of_ble_eq_true rfl) (Nat.le_of_ble_eq_true rfl) dX6_count_139 ⟨so_some (by unfold s_count; first | (rw [if_neg (cnt_out q1 hsw)]) | (rw [if_pos (nI_in0 (by omega) (by decide)), nI_clamp (by omega)]; first | exact ecnt | rfl)), (CI_w hI).symm⟩
      · refine v_tableIn (tgt := 140) (off := 115) X dX6_count_25 (by decide) (by decide) (by decide) (by decide) ?_
        refine v_aload_n X rfl dX6_count_140 ?_
        refine v_getf X fd_X6_19 (rd_BT γ _) rfl dX6_count_141 ?_
        refine v_getf X (v := .int (M 222)) fd_X6_130 (rd_State γ _ _ (by decide)) rfl dX6_count_144 ?_
        subst hQ0
        exact v_iret X rfl (Nat.le_of_ble_eq_true rfl) (Nat.le_of_ble_eq_true rfl) dX6_count_147 ⟨so_some (by unfold s_count; first | (rw [if_neg (cnt_out q1 hsw)]) | (rw [if_pos (nI_in0 (by omega) (by decide)), nI_clamp (by omega)]; first | exact ecnt | rfl)), (CI_w hI).symm⟩
      · refine v_tableIn (tgt := 148) (off := 123) X dX6_count_25 (by decide) (by decide) (by decide) (by decide) ?_
        refine v_aload_n X rfl dX6_count_148 ?_
        refine v_getf X fd_X6_19 (rd_BT γ _) rfl dX6_count_149 ?_
        refine v_getf X fd_X6_112 (rd_State γ _ _ (by decide)) rfl dX6_count_152 ?_
        refine v_callV (ci := 0) X mv_X6_116 (k_size l γ (wset W 0 M) 0 q row (by decide) _ rfl hLB) rfl rfl (rd_SList γ (k := 0) _ (by decide)) rfl ⟨Nat.le_of_ble_eq_true rfl, Nat.le_of_ble_eq_true rfl, Nat.le_of_ble_eq_true rfl, Nat.le_of_ble_eq_true rfl⟩ (Nat.le_of_ble_eq_true rfl) rfl dX6_count_155 rfl (det_i ?_)
        rw [← hOQ.1]
        subst hQ0
        exact v_iret X rfl (Nat.le_of_ble_eq_true rfl) (Nat.le_of_ble_eq_true rfl) dX6_count_158 ⟨so_some (by unfold s_count; first | (rw [if_neg (cnt_out q1 hsw)]) | (rw [if_pos (nI_in0 (by omega) (by decide)), nI_clamp (by omega)]; first | exact ecnt | rfl)), (CI_w hI).symm⟩
      · refine v_tableIn (tgt := 159) (off := 134) X dX6_count_25 (by decide) (by decide) (by decide) (by decide) ?_
        refine v_aload_n X rfl dX6_count_159 ?_
        refine v_getf X fd_X6_19 (rd_BT γ _) rfl dX6_count_160 ?_
        refine v_getf X (v := .int (M 224)) fd_X6_226 (rd_State γ _ _ (by decide)) rfl dX6_count_163 ?_
        subst hQ0
        exact v_iret X rfl (Nat.le_of_ble_eq_true rfl) (Nat.le_of_ble_eq_true rfl) dX6_count_166 ⟨so_some (by unfold s_count; first | (rw [if_neg (cnt_out q1 hsw)]) | (rw [if_pos (nI_in0 (by omega) (by decide)), nI_clamp (by omega)]; first | exact ecnt | rfl)), (CI_w hI).symm⟩
      · refine v_tableIn (tgt := 167) (off := 142) X dX6_count_25 (by decide) (by decide) (by decide) (by decide) ?_
        refine v_aload_n X rfl dX6_count_167 ?_
        refine v_getf X fd_X6_19 (rd_BT γ _) rfl dX6_count_168 ?_
        refine v_getf X (v := .int (M 225)) fd_X6_91 (rd_State γ _ _ (by decide)) rfl dX6_count_171 ?_
        subst hQ0
        exact v_iret X rfl (Nat.le_of_ble_eq_true rfl) (Nat.le_of_ble_eq_true rfl) dX6_count_174 ⟨so_some (by unfold s_count; first | (rw [if_neg (cnt_out q1 hsw)]) | (rw [if_pos (nI_in0 (by omega) (by decide)), nI_clamp (by omega)]; first | exact ecnt | rfl)), (CI_w hI).symm⟩
      · refine v_tableIn (tgt := 175) (off := 150) X dX6_count_25 (by decide) (by decide) (by decide) (by decide) ?_
        refine v_aload_n X rfl dX6_count_175 ?_
        refine v_getf X fd_X6_19 (rd_BT γ _) rfl dX6_count_176 ?_
        refine v_getf X fd_X6_65 (rd_State γ _ _ (by decide)) rfl dX6_count_179 ?_
        refine v_callV (ci := 5) X mv_X6_69 (c_X5_units l γ W M 0 (by decide) cn h6 hTP.2.2) rfl rfl (rd_Train γ _ _ (by decide)) rfl ⟨Nat.le_of_ble_eq_true rfl, Nat.le_of_ble_eq_true rfl, Nat.le_of_ble_eq_true rfl, Nat.le_of_ble_eq_true rfl⟩ (Nat.le_of_ble_eq_true rfl) rfl dX6_count_182 rfl (det_i ?_)
        subst hQ0
        exact v_iret X rfl (Nat.le_of_ble_eq_true rfl) (Nat.le_of_ble_eq_true rfl) dX6_count_185 ⟨so_some (by unfold s_count; first | (rw [if_neg (cnt_out q1 hsw)]) | (rw [if_pos (nI_in0 (by omega) (by decide)), nI_clamp (by omega)]; first | exact ecnt | rfl)), (CI_w hI).symm⟩
      · refine v_tableIn (tgt := 186) (off := 161) X dX6_count_25 (by decide) (by decide) (by decide) (by decide) ?_
        refine v_aload_n X rfl dX6_count_186 ?_
        refine v_getf X fd_X6_19 (rd_BT γ _) rfl dX6_count_187 ?_
        refine v_getf X fd_X6_144 (rd_State γ _ _ (by decide)) rfl dX6_count_190 ?_
        refine v_callV (ci := 4) X mv_X6_229 (c_X4_units l γ W M 0 (by decide)) rfl rfl (rd_Track γ _ _ (by decide)) rfl ⟨Nat.le_of_ble_eq_true rfl, Nat.le_of_ble_eq_true rfl, Nat.le_of_ble_eq_true rfl, Nat.le_of_ble_eq_true rfl⟩ (Nat.le_of_ble_eq_true rfl) rfl dX6_count_193 rfl (det_i ?_)
        subst hQ0
        exact v_iret X rfl (Nat.le_of_ble_eq_true rfl) (Nat.le_of_ble_eq_true rfl) dX6_count_196 ⟨so_some (by unfold s_count; first | (rw [if_neg (cnt_out q1 hsw)]) | (rw [if_pos (nI_in0 (by omega) (by decide)), nI_clamp (by omega)]; first | exact ecnt | rfl)), (CI_w hI).symm⟩
      · refine v_tableIn (tgt := 197) (off := 172) X dX6_count_25 (by decide) (by decide) (by decide) (by decide) ?_
        refine v_aload_n X rfl dX6_count_197 ?_
        refine v_getf X fd_X6_19 (rd_BT γ _) rfl dX6_count_198 ?_
        refine v_getf X (v := .int (M 226)) fd_X6_230 (rd_State γ _ _ (by decide)) rfl dX6_count_201 ?_
        subst hQ0
        exact v_iret X rfl (Nat.le_of_ble_eq_true rfl) (Nat.le_of_ble_eq_true rfl) dX6_count_204 ⟨so_some (by unfold s_count; first | (rw [if_neg (cnt_out q1 hsw)]) | (rw [if_pos (nI_in0 (by omega) (by decide)), nI_clamp (by omega)]; first | exact ecnt | rfl)), (CI_w hI).symm⟩
      · refine v_tableIn (tgt := 205) (off := 180) X dX6_count_25 (by decide) (by decide) (by decide) (by decide) ?_
        refine v_aload_n X rfl dX6_count_205 ?_
        refine v_getf X fd_X6_19 (rd_BT γ _) rfl dX6_count_206 ?_
        refine v_getf X (v := .int (M 227)) fd_X6_79 (rd_State γ _ _ (by decide)) rfl dX6_count_209 ?_
        subst hQ0
        exact v_iret X rfl (Nat.le_of_ble_eq_true rfl) (Nat.le_of_ble_eq_true rfl) dX6_count_212 ⟨so_some (by unfold s_count; first | (rw [if_neg (cnt_out q1 hsw)]) | (rw [if_pos (nI_in0 (by omega) (by decide)), nI_clamp (by omega)]; first | exact ecnt | rfl)), (CI_w hI).symm⟩
      · refine v_tableIn (tgt := 213) (off := 188) X dX6_count_25 (by decide) (by decide) (by decide) (by decide) ?_
        refine v_aload_n X rfl dX6_count_213 ?_
        refine v_getf X fd_X6_29 (rd_BT γ _) rfl dX6_count_214 ?_
        refine v_getf X (v := (.int ((wset W 0 M).1 9 1))) fd_X6_159 (rd_Hist γ _) rfl dX6_count_217 ?_
        rw [ws_ne _ _ (by decide), hn2]
        subst hQ0
        exact v_iret X rfl (Nat.le_of_ble_eq_true rfl) (Nat.le_of_ble_eq_true rfl) dX6_count_220 ⟨so_some (by unfold s_count; first | (rw [if_neg (cnt_out q1 hsw)]) | (rw [if_pos (nI_in0 (by omega) (by decide)), nI_clamp (by omega)]; first | exact ecnt | rfl)), (CI_w hI).symm⟩
      · refine v_tableIn (tgt := 221) (off := 196) X dX6_count_25 (by decide) (by decide) (by decide) (by decide) ?_
        refine v_aload_n X rfl dX6_count_221 ?_
        refine v_getf X fd_X6_10 (rd_BT γ _) rfl dX6_count_222 ?_
        refine v_getf X (v := (.int ((wset W 0 M).1 8 60))) fd_X6_41 (rd_Text γ _) rfl dX6_count_225 ?_
        rw [ws_ne _ _ (by decide), hX.1]
        subst hQ0
        exact v_iret X rfl (Nat.le_of_ble_eq_true rfl) (Nat.le_of_ble_eq_true rfl) dX6_count_228 ⟨so_some (by unfold s_count; first | (rw [if_neg (cnt_out q1 hsw)]) | (rw [if_pos (nI_in0 (by omega) (by decide)), nI_clamp (by omega)]; first | exact ecnt | rfl)), (CI_w hI).symm⟩
    · refine v_tableOut (tgt := 229) X dX6_count_25 (sw_out (by decide) hsw) (by decide) ?_
      refine v_sipush' X ks_m1002 dX6_count_229 ?_
      subst hQ0
      exact v_iret X rfl (Nat.le_of_ble_eq_true rfl) (Nat.le_of_ble_eq_true rfl) dX6_count_232 ⟨so_some (by unfold s_count; first | (rw [if_neg (cnt_out q1 hsw)]) | (rw [if_pos (nI_in0 (by omega) (by decide)), nI_clamp (by omega)]; first | exact ecnt | rfl)), (CI_w hI).symm⟩
  · obtain ⟨j, hj1, hj2, rfl⟩ := in_nat1 (by decide) (by decide) q1
    have ecnt : M (228 + (j - 14)) = s_countN M cn u t j := by unfold s_countN; rw [if_neg (by omega), if_neg (by omega), if_neg (by omega), if_neg (by omega), if_neg (by omega), if_neg (by omega), if_neg (by omega), show 228 + (j - 14) = 228 + j - 14 by omega]
    refine v_aload_n X rfl dX6_count_11 ?_
    refine v_getf X fd_X6_19 (rd_BT γ _) rfl dX6_count_12 ?_
    refine v_getf X fd_X6_62 (rd_State γ _ _ (by decide)) rfl dX6_count_15 ?_
    refine v_iload_n X rfl dX6_count_18 ?_
    refine v_bipush' X kb_14 dX6_count_19 ?_
    refine v_isub' X (v := nI (j - 14)) (pk_sub hj1) dX6_count_21 ?_
    refine v_iald' X (v := (M (228 + ((j - 14))))) (rd_Settings γ _ _ (by decide)) ((j - 14)) rfl (by omega) (by decide) (vw_at (by omega)) dX6_count_22 ?_
    subst hQ0
    exact v_iret X rfl (Nat.le_of_ble_eq_true rfl) (Nat.le_of_ble_eq_true rfl) dX6_count_23 ⟨so_some (by unfold s_count; first | (rw [if_neg (cnt_out q1 hsw)]) | (rw [if_pos (nI_in0 (by omega) (by decide)), nI_clamp (by omega)]; first | exact ecnt | rfl)), (CI_w hI).symm⟩
