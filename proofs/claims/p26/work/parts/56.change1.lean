/-! what the class changes -/
theorem RBs {W W2 : Wd} {M : Nat → Int32} (h : RB (wset W 0 M) W2) : RB W W2 := fun b hb => (h b hb).trans (ws_ne _ _ (by omega))
theorem RBz {W W2 : Wd} {N : Nat → Int32} (h : RB W W2) : RB W (wset W2 0 N) := fun b hb => (ws_ne _ _ (by omega)).trans (h b hb)
theorem CI.mono {γ : Gm} {W : Wd} {c c' : Nat} {M P T : Nat → Int32} {u t cn q tm : Nat} (h : CI γ W c M P T u t cn q tm) (hc : c ≤ c') : CI γ W c' M P T u t cn q tm := ⟨h.1, h.2.1, h.2.2.1, h.2.2.2.1, h.2.2.2.2.1, h.2.2.2.2.2.1.fr hc (Ext.refl W) (fun _ _ _ _ => rfl) (fun _ _ _ => rfl), h.2.2.2.2.2.2⟩
theorem if3p {A B C : Prop} [Decidable A] [Decidable B] [Decidable C] {α : Type} {x y : α} (h : A ∧ B ∧ C) : (if A then (if B then (if C then x else y) else y) else y) = x := by rw [if_pos h.1, if_pos h.2.1, if_pos h.2.2]
theorem if3n {A B C : Prop} [Decidable A] [Decidable B] [Decidable C] {α : Type} {x y : α} (h : ¬ (A ∧ B ∧ C)) : (if A then (if B then (if C then x else y) else y) else y) = y := by
  by_cases a : A
  · rw [if_pos a]
    exact if2n fun b => h ⟨a, b⟩
  · rw [if_neg a]
theorem open_x {z : Int32} (h : ¬ z < nI 0) (h2 : ¬ z = 0) : ¬ z ≤ 0 := by
  rw [i_lt, i_nI (by decide)] at h
  rw [i_eq, i_0] at h2
  rw [i_le, i_0]
  omega
set_option maxHeartbeats 4000000 in
set_option maxRecDepth 100000 in
theorem c_X6_set (l : Launch) (γ : Gm) (W : Wd) (nc : Nat) (M P T : Nat → Int32) (u t cn q tm : Nat) (hI : CI γ W nc M P T u t cn q tm) (hnc : nc < 600) (x z : Int32) : Cr l γ yX6_set cX6_set 4 (some .int) 10 235 12 180 [.ref γ.1, .int x, .int z] (rdw γ W) (fun v h' => v = some (.int ((if ¬ x < nI 0 ∧ ¬ nI 4 < x then (if ¬ z < lstS x.toNatClampNeg ∧ ¬ mstS x.toNatClampNeg < z then (M (228 + x.toNatClampNeg)) else (-1002)) else (-1002)))) ∧ ((((¬ x < nI 0 ∧ ¬ nI 4 < x) ∧ (¬ z < lstS x.toNatClampNeg ∧ ¬ mstS x.toNatClampNeg < z)) ∧ ∃ (W' : Wd) (cn2 q2 tm2 : Nat), h' = rdw γ W' ∧ CI γ W' (nc + 1) (upd M (228 + x.toNatClampNeg) z) (s_keepP M P u) T (s_u u) t cn2 q2 tm2 ∧ RB W W') ∨ (¬ ((¬ x < nI 0 ∧ ¬ nI 4 < x) ∧ (¬ z < lstS x.toNatClampNeg ∧ ¬ mstS x.toNatClampNeg < z)) ∧ h' = rdw γ W))) := by
  refine Cr_of [some (.ref γ.1), some (.int x), some (.int z), none] (by decide +kernel) (Nat.le_of_ble_eq_true rfl) rfl ?_
  intro p e s m args below meth c X
  refine v_q0 (fun Q0 hQ0 => ?_)
  have hI0 := hI
  obtain ⟨hM, hV, hF, hL1, hL8, hH, hX, hN⟩ := hI0
  obtain ⟨hVS, hT, hT9⟩ := hV
  obtain ⟨⟨hc, h1, h6⟩, hOQ, hTP, hHB, hSR⟩ := hVS
  have h10 := hOQ.2.1
  have hB9 : 3600 * (tm : Int) < 1000000000 := by omega
  refine v_eqh (CI_w hI) ?_
  have hI2 := hI.self
  refine v_iload_n X rfl dX6_set_0 ?_
  refine v_iconst' X kc_0 dX6_set_1 ?_
  refine v_iconst' X kc_4 dX6_set_2 ?_
  refine v_callS X ms_X6_33 (c_X6_isWithin l γ _ _ _ _) rfl ⟨Nat.le_of_ble_eq_true rfl, Nat.le_of_ble_eq_true rfl, Nat.le_of_ble_eq_true rfl, Nat.le_of_ble_eq_true rfl⟩ (Nat.le_of_ble_eq_true rfl) rfl dX6_set_3 rfl (det_i ?_)
  refine v_if_eq_b (tgt := 26) X dX6_set_6 (by decide) (fun q1 => ?_) (fun q1 => ?_)
  · have ev : (-1002) = ((if ¬ x < nI 0 ∧ ¬ nI 4 < x then (if ¬ z < lstS x.toNatClampNeg ∧ ¬ mstS x.toNatClampNeg < z then (M (228 + x.toNatClampNeg)) else (-1002)) else (-1002))) := (if_neg q1).symm
    have nok : ¬ ((¬ x < nI 0 ∧ ¬ nI 4 < x) ∧ (¬ z < lstS x.toNatClampNeg ∧ ¬ mstS x.toNatClampNeg < z)) := fun z9 => q1 z9.1
    refine v_sipush' X ks_m1002 dX6_set_26 ?_
    subst hQ0
    exact v_iret X rfl (Nat.le_of_ble_eq_true rfl) (Nat.le_of_ble_eq_true rfl) dX6_set_29 ⟨so_some (ev), Or.inr ⟨nok, (CI_w hI).symm⟩⟩
  · obtain ⟨j, hj, rfl⟩ := in_nat (by decide) q1
    have ej : (nI j).toNatClampNeg = j := nI_clamp (by omega)
    refine v_iload_n X rfl dX6_set_9 ?_
    refine v_gets X (cx_Ls X).1.1 gs_X6_51 dX6_set_10 ?_
    refine v_iload_n X rfl dX6_set_13 ?_
    refine v_tald X (cx_Ls X).1.2 j rfl (by omega) (by decide) rfl dX6_set_14 ?_
    refine v_gets X (cx_Ls X).2.1 gs_X6_55 dX6_set_15 ?_
    refine v_iload_n X rfl dX6_set_18 ?_
    refine v_tald X (cx_Ls X).2.2 j rfl (by omega) (by decide) rfl dX6_set_19 ?_
    refine v_callS X ms_X6_33 (c_X6_isWithin l γ _ _ _ _) rfl ⟨Nat.le_of_ble_eq_true rfl, Nat.le_of_ble_eq_true rfl, Nat.le_of_ble_eq_true rfl, Nat.le_of_ble_eq_true rfl⟩ (Nat.le_of_ble_eq_true rfl) rfl dX6_set_20 rfl (det_i ?_)
    refine v_if_ne_b (tgt := 30) X dX6_set_23 (by decide) (fun q2 => ?_) (fun q2 => ?_)
    · refine v_aload_n X rfl dX6_set_30 ?_
      refine v_getf X fd_X6_29 (rd_BT γ _) rfl dX6_set_31 ?_
      refine v_aload_n X rfl dX6_set_34 ?_
      refine v_getf X fd_X6_19 (rd_BT γ _) rfl dX6_set_35 ?_
      refine v_callV (ci := 1) X mv_X6_58 (k_keep l γ (wset W 0 M) nc M P T u t cn q tm hI2 hnc) rfl rfl (rd_Hist γ _) rfl ⟨Nat.le_of_ble_eq_true rfl, Nat.le_of_ble_eq_true rfl, Nat.le_of_ble_eq_true rfl, Nat.le_of_ble_eq_true rfl⟩ (Nat.le_of_ble_eq_true rfl) rfl dX6_set_38 rfl (nd_v (fun h9 hp9 => ?_))
      obtain ⟨W2, rfl, hI3, hR3, hE3, hl3⟩ := hp9
      refine v_eqh (CI_w hI3) ?_
      refine v_aload_n X rfl dX6_set_41 ?_
      refine v_getf X fd_X6_19 (rd_BT γ _) rfl dX6_set_42 ?_
      refine v_getf X fd_X6_62 (rd_State γ _ _ (by decide)) rfl dX6_set_45 ?_
      refine v_iload_n X rfl dX6_set_48 ?_
      refine v_iald' X (v := (M (228 + (j)))) (rd_Settings γ _ _ (by decide)) (j) rfl (by omega) (by decide) (vw_at (by omega)) dX6_set_49 ?_
      refine v_istore_n X (Nat.le_of_ble_eq_true rfl) rfl dX6_set_50 ?_
      refine v_aload_n X rfl dX6_set_51 ?_
      refine v_getf X fd_X6_19 (rd_BT γ _) rfl dX6_set_52 ?_
      refine v_getf X fd_X6_62 (rd_State γ _ _ (by decide)) rfl dX6_set_55 ?_
      refine v_iload_n X rfl dX6_set_58 ?_
      refine v_iload_n X rfl dX6_set_59 ?_
      refine v_iast X (rd_Settings γ _ _ (by decide)) (j) rfl (by omega) (by decide) dX6_set_60 ?_
      refine v_eqh (up_set γ _ _ (by decide) (by omega) _) ?_
      refine v_iload_n X rfl dX6_set_61 ?_
      subst hQ0
      exact v_iret X rfl (Nat.le_of_ble_eq_true rfl) (Nat.le_of_ble_eq_true rfl) dX6_set_62 ⟨so_some (by rw [if_pos q1, ej, if_pos q2]), Or.inl ⟨⟨q1, by rw [ej]; exact q2⟩, _, _, _, _, rfl, by rw [ej]; exact hI3.set0 (VT_set hI3.2.1 (by omega) q2.1 q2.2) (fun i a b => pk_un (by unfold f_set; omega)), RBz (RBs hR3)⟩⟩
    · have nok : ¬ ((¬ nI j < nI 0 ∧ ¬ nI 4 < nI j) ∧ (¬ z < lstS (nI j).toNatClampNeg ∧ ¬ mstS (nI j).toNatClampNeg < z)) := fun z9 => q2 (by have h9 := z9.2; rw [ej] at h9; exact h9)
      have ev := (if2n (x := M (228 + (nI j).toNatClampNeg)) (y := (-1002 : Int32)) nok).symm
      refine v_sipush' X ks_m1002 dX6_set_26 ?_
      subst hQ0
      exact v_iret X rfl (Nat.le_of_ble_eq_true rfl) (Nat.le_of_ble_eq_true rfl) dX6_set_29 ⟨so_some (ev), Or.inr ⟨nok, (CI_w hI).symm⟩⟩
set_option maxHeartbeats 4000000 in
set_option maxRecDepth 100000 in
theorem c_X6_setTrain (l : Launch) (γ : Gm) (W : Wd) (nc : Nat) (M P T : Nat → Int32) (u t cn q tm : Nat) (hI : CI γ W nc M P T u t cn q tm) (hnc : nc < 600) (x : Int32) : Cr l γ yX6_setTrain cX6_setTrain 3 (some .int) 10 235 12 180 [.ref γ.1, .int x] (rdw γ W) (fun v h' => v = some (.int ((if ¬ x < nI 1 ∧ ¬ nI 6 < x then (s_inW M cn) else (-1002)))) ∧ ((((¬ x < nI 1 ∧ ¬ nI 6 < x)) ∧ ∃ (W' : Wd) (cn2 q2 tm2 : Nat), h' = rdw γ W' ∧ CI γ W' (nc + 1) (q_couples (upd M 227 (M 227 + s_inW M cn)) x) (s_keepP M P u) T (s_u u) t cn2 q2 tm2 ∧ RB W W') ∨ (¬ ((¬ x < nI 1 ∧ ¬ nI 6 < x)) ∧ h' = rdw γ W))) := by
  refine Cr_of [some (.ref γ.1), some (.int x), none] (by decide +kernel) (Nat.le_of_ble_eq_true rfl) rfl ?_
  intro p e s m args below meth c X
  refine v_q0 (fun Q0 hQ0 => ?_)
  have hI0 := hI
  obtain ⟨hM, hV, hF, hL1, hL8, hH, hX, hN⟩ := hI0
  obtain ⟨hVS, hT, hT9⟩ := hV
  obtain ⟨⟨hc, h1, h6⟩, hOQ, hTP, hHB, hSR⟩ := hVS
  have h10 := hOQ.2.1
  have hB9 : 3600 * (tm : Int) < 1000000000 := by omega
  refine v_eqh (CI_w hI) ?_
  have hI2 := hI.self
  refine v_iload_n X rfl dX6_setTrain_0 ?_
  refine v_iconst' X kc_1 dX6_setTrain_1 ?_
  refine v_bipush' X kb_6 dX6_setTrain_2 ?_
  refine v_callS X ms_X6_33 (c_X6_isWithin l γ _ _ _ _) rfl ⟨Nat.le_of_ble_eq_true rfl, Nat.le_of_ble_eq_true rfl, Nat.le_of_ble_eq_true rfl, Nat.le_of_ble_eq_true rfl⟩ (Nat.le_of_ble_eq_true rfl) rfl dX6_setTrain_4 rfl (det_i ?_)
  refine v_if_ne_b (tgt := 14) X dX6_setTrain_7 (by decide) (fun q1 => ?_) (fun q1 => ?_)
  · obtain ⟨k, hk1, hk6, rfl⟩ := in_nat1 (by decide) (by decide) q1
    refine v_aload_n X rfl dX6_setTrain_14 ?_
    refine v_getf X fd_X6_29 (rd_BT γ _) rfl dX6_setTrain_15 ?_
    refine v_aload_n X rfl dX6_setTrain_18 ?_
    refine v_getf X fd_X6_19 (rd_BT γ _) rfl dX6_setTrain_19 ?_
    refine v_callV (ci := 1) X mv_X6_58 (k_keep l γ (wset W 0 M) nc M P T u t cn q tm hI2 hnc) rfl rfl (rd_Hist γ _) rfl ⟨Nat.le_of_ble_eq_true rfl, Nat.le_of_ble_eq_true rfl, Nat.le_of_ble_eq_true rfl, Nat.le_of_ble_eq_true rfl⟩ (Nat.le_of_ble_eq_true rfl) rfl dX6_setTrain_22 rfl (nd_v (fun h9 hp9 => ?_))
    obtain ⟨W2, rfl, hI3, hR3, hE3, hl3⟩ := hp9
    refine v_eqh (CI_w hI3) ?_
    refine v_aload_n X rfl dX6_setTrain_25 ?_
    refine v_getf X fd_X6_19 (rd_BT γ _) rfl dX6_setTrain_26 ?_
    refine v_getf X fd_X6_65 (rd_State γ _ _ (by decide)) rfl dX6_setTrain_29 ?_
    refine v_callV (ci := 5) X mv_X6_69 (c_X5_units l γ W2 M 0 (by decide) cn h6 hTP.2.2) rfl rfl (rd_Train γ _ _ (by decide)) rfl ⟨Nat.le_of_ble_eq_true rfl, Nat.le_of_ble_eq_true rfl, Nat.le_of_ble_eq_true rfl, Nat.le_of_ble_eq_true rfl⟩ (Nat.le_of_ble_eq_true rfl) rfl dX6_setTrain_32 rfl (det_i ?_)
    refine v_istore_n X (Nat.le_of_ble_eq_true rfl) rfl dX6_setTrain_35 ?_
    refine v_aload_n X rfl dX6_setTrain_36 ?_
    refine v_getf X fd_X6_19 (rd_BT γ _) rfl dX6_setTrain_37 ?_
    refine v_getf X fd_X6_65 (rd_State γ _ _ (by decide)) rfl dX6_setTrain_40 ?_
    refine v_iload_n X rfl dX6_setTrain_43 ?_
    refine v_callV (ci := 5) X mv_X6_75 (c_X5_replace l γ W2 M 0 (by decide) (nI k)) rfl rfl (rd_Train γ _ _ (by decide)) rfl ⟨Nat.le_of_ble_eq_true rfl, Nat.le_of_ble_eq_true rfl, Nat.le_of_ble_eq_true rfl, Nat.le_of_ble_eq_true rfl⟩ (Nat.le_of_ble_eq_true rfl) rfl dX6_setTrain_44 rfl (det_v ?_)
    refine v_aload_n X rfl dX6_setTrain_47 ?_
    refine v_getf X fd_X6_19 (rd_BT γ _) rfl dX6_setTrain_48 ?_
    refine v_dup X rfl dX6_setTrain_51 ?_
    refine v_getf X (v := .int ((q_couples M (nI k)) 227)) fd_X6_79 (rd_State γ _ _ (by decide)) rfl dX6_setTrain_52 ?_
    refine v_iload_n X rfl dX6_setTrain_55 ?_
    refine v_iadd X dX6_setTrain_56 ?_
    rw [cou_off (M := M) (x := nI k) (i := 227) (by omega) (by omega) (by omega) (by omega) (by omega)]
    refine v_putf X fp_X6_79 (rd_State γ _ _ (by decide)) rfl rfl (Nat.le_of_ble_eq_true rfl) dX6_setTrain_57 ?_
    refine v_eqh (up_taken γ _ _ (by decide) _) ?_
    rw [cou_227]
    refine v_iload_n X rfl dX6_setTrain_60 ?_
    subst hQ0
    exact v_iret X rfl (Nat.le_of_ble_eq_true rfl) (Nat.le_of_ble_eq_true rfl) dX6_setTrain_61 ⟨so_some ((if_pos q1).symm), Or.inl ⟨q1, _, _, _, _, rfl, hI3.set0 (VT_train (hI3.2.1.upd (by omega) (by omega) (by omega) (by omega)) hk1 hk6) (fun i a b => (cou_off (by omega) (by omega) (by omega) (by omega) (by omega)).trans (pk_un (by omega))), RBz (RBs hR3)⟩⟩
  · refine v_sipush' X ks_m1002 dX6_setTrain_10 ?_
    subst hQ0
    exact v_iret X rfl (Nat.le_of_ble_eq_true rfl) (Nat.le_of_ble_eq_true rfl) dX6_setTrain_13 ⟨so_some ((if_neg q1).symm), Or.inr ⟨q1, (CI_w hI).symm⟩⟩
set_option maxHeartbeats 4000000 in
set_option maxRecDepth 100000 in
theorem c_X6_load (l : Launch) (γ : Gm) (W : Wd) (nc : Nat) (M P T : Nat → Int32) (u t cn q tm : Nat) (hI : CI γ W nc M P T u t cn q tm) (hnc : nc < 600) (x z : Int32) : Cr l γ yX6_load cX6_load 3 (some .int) 10 235 12 180 [.ref γ.1, .int x, .int z] (rdw γ W) (fun v h' => v = some (.int ((if ¬ x < nI 0 ∧ ¬ nI (cn - 1) < x then (if ¬ z < nI 1 ∧ ¬ nI 200 < z then (if M 220 = 0 then (if M (120 + 8 * x.toNatClampNeg + 0) + z ≤ nI 200 then (M (120 + 8 * x.toNatClampNeg + 0) + z) else (-1004)) else (-1003)) else (-1002)) else (-1002)))) ∧ ((((¬ x < nI 0 ∧ ¬ nI (cn - 1) < x) ∧ (¬ z < nI 1 ∧ ¬ nI 200 < z) ∧ (M 220 = 0) ∧ (M (120 + 8 * x.toNatClampNeg + 0) + z ≤ nI 200)) ∧ ∃ (W' : Wd) (cn2 q2 tm2 : Nat), h' = rdw γ W' ∧ CI γ W' (nc + 1) (upd (upd M (120 + 8 * x.toNatClampNeg + 0) (M (120 + 8 * x.toNatClampNeg + 0) + z)) 225 (M 225 + z)) (s_keepP M P u) T (s_u u) t cn2 q2 tm2 ∧ RB W W') ∨ (¬ ((¬ x < nI 0 ∧ ¬ nI (cn - 1) < x) ∧ (¬ z < nI 1 ∧ ¬ nI 200 < z) ∧ (M 220 = 0) ∧ (M (120 + 8 * x.toNatClampNeg + 0) + z ≤ nI 200)) ∧ h' = rdw γ W))) := by
  refine Cr_of [some (.ref γ.1), some (.int x), some (.int z)] (by decide +kernel) (Nat.le_of_ble_eq_true rfl) rfl ?_
  intro p e s m args below meth c X
  refine v_q0 (fun Q0 hQ0 => ?_)
  have hI0 := hI
  obtain ⟨hM, hV, hF, hL1, hL8, hH, hX, hN⟩ := hI0
  obtain ⟨hVS, hT, hT9⟩ := hV
  obtain ⟨⟨hc, h1, h6⟩, hOQ, hTP, hHB, hSR⟩ := hVS
  have h10 := hOQ.2.1
  have hB9 : 3600 * (tm : Int) < 1000000000 := by omega
  refine v_eqh (CI_w hI) ?_
  have hI2 := hI.self
  refine v_aload_n X rfl dX6_load_0 ?_
  refine v_getf X fd_X6_19 (rd_BT γ _) rfl dX6_load_1 ?_
  refine v_getf X fd_X6_65 (rd_State γ _ _ (by decide)) rfl dX6_load_4 ?_
  refine v_iload_n X rfl dX6_load_7 ?_
  refine v_callV (ci := 5) X mv_X6_82 (c_X5_hasWagon l γ W M 0 (by decide) cn hc h6 h1 x) rfl rfl (rd_Train γ _ _ (by decide)) rfl ⟨Nat.le_of_ble_eq_true rfl, Nat.le_of_ble_eq_true rfl, Nat.le_of_ble_eq_true rfl, Nat.le_of_ble_eq_true rfl⟩ (Nat.le_of_ble_eq_true rfl) rfl dX6_load_8 rfl (det_i ?_)
  refine v_if_eq_b (tgt := 25) X dX6_load_11 (by decide) (fun q1 => ?_) (fun q1 => ?_)
  · have ev : (-1002) = ((if ¬ x < nI 0 ∧ ¬ nI (cn - 1) < x then (if ¬ z < nI 1 ∧ ¬ nI 200 < z then (if M 220 = 0 then (if M (120 + 8 * x.toNatClampNeg + 0) + z ≤ nI 200 then (M (120 + 8 * x.toNatClampNeg + 0) + z) else (-1004)) else (-1003)) else (-1002)) else (-1002))) := (if_neg q1).symm
    have nok : ¬ ((¬ x < nI 0 ∧ ¬ nI (cn - 1) < x) ∧ (¬ z < nI 1 ∧ ¬ nI 200 < z) ∧ (M 220 = 0) ∧ (M (120 + 8 * x.toNatClampNeg + 0) + z ≤ nI 200)) := fun z9 => q1 z9.1
    refine v_sipush' X ks_m1002 dX6_load_25 ?_
    subst hQ0
    exact v_iret X rfl (Nat.le_of_ble_eq_true rfl) (Nat.le_of_ble_eq_true rfl) dX6_load_28 ⟨so_some (ev), Or.inr ⟨nok, (CI_w hI).symm⟩⟩
  · obtain ⟨a1, ha1, rfl⟩ := in_nat (by omega) q1
    have ej : (nI a1).toNatClampNeg = a1 := nI_clamp (by omega)
    refine v_iload_n X rfl dX6_load_14 ?_
    refine v_iconst' X kc_1 dX6_load_15 ?_
    refine v_sipush' X ks_200 dX6_load_16 ?_
    refine v_callS X ms_X6_33 (c_X6_isWithin l γ _ _ _ _) rfl ⟨Nat.le_of_ble_eq_true rfl, Nat.le_of_ble_eq_true rfl, Nat.le_of_ble_eq_true rfl, Nat.le_of_ble_eq_true rfl⟩ (Nat.le_of_ble_eq_true rfl) rfl dX6_load_19 rfl (det_i ?_)
    refine v_if_ne_b (tgt := 29) X dX6_load_22 (by decide) (fun q2 => ?_) (fun q2 => ?_)
    · refine v_aload_n X rfl dX6_load_29 ?_
      refine v_getf X fd_X6_19 (rd_BT γ _) rfl dX6_load_30 ?_
      refine v_getf X fd_X6_65 (rd_State γ _ _ (by decide)) rfl dX6_load_33 ?_
      refine v_getf X (v := .int (M 220)) fd_X6_85 (rd_Train γ _ _ (by decide)) rfl dX6_load_36 ?_
      refine v_if_eq (tgt := 46) X dX6_load_39 (by decide) (fun q3 => ?_) (fun q3 => ?_)
      · refine v_aload_n X rfl dX6_load_46 ?_
        refine v_getf X fd_X6_19 (rd_BT γ _) rfl dX6_load_47 ?_
        refine v_getf X fd_X6_65 (rd_State γ _ _ (by decide)) rfl dX6_load_50 ?_
        refine v_getf X fd_X6_88 (rd_Train γ _ _ (by decide)) rfl dX6_load_53 ?_
        refine v_iload_n X rfl dX6_load_56 ?_
        refine v_iald' X (v := (M (120 + 8 * (a1)))) (rd_Load γ _ _ (by decide)) (a1) rfl (by omega) (by decide) (vw_at (by omega)) dX6_load_57 ?_
        refine v_iload_n X rfl dX6_load_58 ?_
        refine v_iadd X dX6_load_59 ?_
        refine v_sipush' X ks_200 dX6_load_60 ?_
        refine v_icmp_le (tgt := 70) X dX6_load_63 (by decide) (fun q4 => ?_) (fun q4 => ?_)
        · refine v_aload_n X rfl dX6_load_70 ?_
          refine v_getf X fd_X6_29 (rd_BT γ _) rfl dX6_load_71 ?_
          refine v_aload_n X rfl dX6_load_74 ?_
          refine v_getf X fd_X6_19 (rd_BT γ _) rfl dX6_load_75 ?_
          refine v_callV (ci := 1) X mv_X6_58 (k_keep l γ (wset W 0 M) nc M P T u t cn q tm hI2 hnc) rfl rfl (rd_Hist γ _) rfl ⟨Nat.le_of_ble_eq_true rfl, Nat.le_of_ble_eq_true rfl, Nat.le_of_ble_eq_true rfl, Nat.le_of_ble_eq_true rfl⟩ (Nat.le_of_ble_eq_true rfl) rfl dX6_load_78 rfl (nd_v (fun h9 hp9 => ?_))
          obtain ⟨W2, rfl, hI3, hR3, hE3, hl3⟩ := hp9
          refine v_eqh (CI_w hI3) ?_
          refine v_aload_n X rfl dX6_load_81 ?_
          refine v_getf X fd_X6_19 (rd_BT γ _) rfl dX6_load_82 ?_
          refine v_getf X fd_X6_65 (rd_State γ _ _ (by decide)) rfl dX6_load_85 ?_
          refine v_getf X fd_X6_88 (rd_Train γ _ _ (by decide)) rfl dX6_load_88 ?_
          refine v_iload_n X rfl dX6_load_91 ?_
          refine v_dup2 X rfl rfl dX6_load_92 ?_
          refine v_iald' X (v := (M (120 + 8 * (a1)))) (rd_Load γ _ _ (by decide)) (a1) rfl (by omega) (by decide) (vw_at (by omega)) dX6_load_93 ?_
          refine v_iload_n X rfl dX6_load_94 ?_
          refine v_iadd X dX6_load_95 ?_
          refine v_iast X (rd_Load γ _ _ (by decide)) (a1) rfl (by omega) (by decide) dX6_load_96 ?_
          refine v_eqh (up_load γ _ _ (by decide) (by omega) _) ?_
          refine v_aload_n X rfl dX6_load_97 ?_
          refine v_getf X fd_X6_19 (rd_BT γ _) rfl dX6_load_98 ?_
          refine v_dup X rfl dX6_load_101 ?_
          refine v_getf X (v := .int ((upd M (120 + 8 * (a1)) ((M (120 + 8 * (a1))) + z)) 225)) fd_X6_91 (rd_State γ _ _ (by decide)) rfl dX6_load_102 ?_
          refine v_iload_n X rfl dX6_load_105 ?_
          refine v_iadd X dX6_load_106 ?_
          rw [pk_un (by omega : (225 : Nat) ≠ 120 + 8 * a1)]
          refine v_putf X fp_X6_91 (rd_State γ _ _ (by decide)) rfl rfl (Nat.le_of_ble_eq_true rfl) dX6_load_107 ?_
          refine v_eqh (up_loaded γ _ _ (by decide) _) ?_
          refine v_aload_n X rfl dX6_load_110 ?_
          refine v_getf X fd_X6_19 (rd_BT γ _) rfl dX6_load_111 ?_
          refine v_getf X fd_X6_65 (rd_State γ _ _ (by decide)) rfl dX6_load_114 ?_
          refine v_getf X fd_X6_88 (rd_Train γ _ _ (by decide)) rfl dX6_load_117 ?_
          refine v_iload_n X rfl dX6_load_120 ?_
          refine v_iald' X (v := ((upd (upd M (120 + 8 * (a1)) ((M (120 + 8 * (a1))) + z)) 225 (M 225 + z)) (120 + 8 * (a1)))) (rd_Load γ _ _ (by decide)) (a1) rfl (by omega) (by decide) (vw_at (by omega)) dX6_load_121 ?_
          subst hQ0
          exact v_iret X rfl (Nat.le_of_ble_eq_true rfl) (Nat.le_of_ble_eq_true rfl) dX6_load_122 ⟨so_some (by rw [if_pos q1, if_pos q2, if_pos q3, ej, pk_un (by omega : 120 + 8 * a1 ≠ 225), pk_us]; exact (if_pos q4).symm), Or.inl ⟨⟨q1, q2, q3, by rw [ej]; exact q4⟩, _, _, _, _, rfl, by rw [ej]; exact hI3.set0 (VT_load hI3.2.1 (by omega) q2.1 q2.2 q4) (fun i a b => (pk_un (by omega)).trans (pk_un (by unfold f_load; omega))), RBz (RBs hR3)⟩⟩
        · refine v_sipush' X ks_m1004 dX6_load_66 ?_
          subst hQ0
          exact v_iret X rfl (Nat.le_of_ble_eq_true rfl) (Nat.le_of_ble_eq_true rfl) dX6_load_69 ⟨so_some (by rw [if_pos q1, if_pos q2, if_pos q3, ej]; exact (if_neg q4).symm), Or.inr ⟨fun z9 => q4 (by have h9 := z9.2.2.2; rw [ej] at h9; exact h9), (CI_w hI).symm⟩⟩
      · refine v_sipush' X ks_m1003 dX6_load_42 ?_
        subst hQ0
        exact v_iret X rfl (Nat.le_of_ble_eq_true rfl) (Nat.le_of_ble_eq_true rfl) dX6_load_45 ⟨so_some (by rw [if_pos q1, if_pos q2, if_neg q3]), Or.inr ⟨fun z9 => q3 z9.2.2.1, (CI_w hI).symm⟩⟩
    · have ev : (-1002) = ((if ¬ nI a1 < nI 0 ∧ ¬ nI (cn - 1) < nI a1 then (if ¬ z < nI 1 ∧ ¬ nI 200 < z then (if M 220 = 0 then (if M (120 + 8 * (nI a1).toNatClampNeg + 0) + z ≤ nI 200 then (M (120 + 8 * (nI a1).toNatClampNeg + 0) + z) else (-1004)) else (-1003)) else (-1002)) else (-1002))) := by rw [if_pos q1, if_neg q2]
      have nok : ¬ ((¬ nI a1 < nI 0 ∧ ¬ nI (cn - 1) < nI a1) ∧ (¬ z < nI 1 ∧ ¬ nI 200 < z) ∧ (M 220 = 0) ∧ (M (120 + 8 * (nI a1).toNatClampNeg + 0) + z ≤ nI 200)) := fun z9 => q2 z9.2.1
      refine v_sipush' X ks_m1002 dX6_load_25 ?_
      subst hQ0
      exact v_iret X rfl (Nat.le_of_ble_eq_true rfl) (Nat.le_of_ble_eq_true rfl) dX6_load_28 ⟨so_some (ev), Or.inr ⟨nok, (CI_w hI).symm⟩⟩
set_option maxHeartbeats 4000000 in
set_option maxRecDepth 100000 in
theorem c_X6_door (l : Launch) (γ : Gm) (W : Wd) (nc : Nat) (M P T : Nat → Int32) (u t cn q tm : Nat) (hI : CI γ W nc M P T u t cn q tm) (hnc : nc < 600) (x y z : Int32) : Cr l γ yX6_door cX6_door 5 (some .int) 10 235 12 180 [.ref γ.1, .int x, .int y, .int z] (rdw γ W) (fun v h' => v = some (.int ((if ¬ x < nI 0 ∧ ¬ nI (cn - 1) < x then (if ¬ y < nI 0 ∧ ¬ nI 2 < y then (if ¬ z < nI 0 ∧ ¬ nI 3 < z then (M (120 + 8 * x.toNatClampNeg + (2 + y.toNatClampNeg))) else (-1002)) else (-1002)) else (-1002)))) ∧ ((((¬ x < nI 0 ∧ ¬ nI (cn - 1) < x) ∧ (¬ y < nI 0 ∧ ¬ nI 2 < y) ∧ (¬ z < nI 0 ∧ ¬ nI 3 < z)) ∧ ∃ (W' : Wd) (cn2 q2 tm2 : Nat), h' = rdw γ W' ∧ CI γ W' (nc + 1) (q_moves M x.toNatClampNeg y.toNatClampNeg z) (s_keepP M P u) T (s_u u) t cn2 q2 tm2 ∧ RB W W') ∨ (¬ ((¬ x < nI 0 ∧ ¬ nI (cn - 1) < x) ∧ (¬ y < nI 0 ∧ ¬ nI 2 < y) ∧ (¬ z < nI 0 ∧ ¬ nI 3 < z)) ∧ h' = rdw γ W))) := by
  refine Cr_of [some (.ref γ.1), some (.int x), some (.int y), some (.int z), none] (by decide +kernel) (Nat.le_of_ble_eq_true rfl) rfl ?_
  intro p e s m args below meth c X
  refine v_q0 (fun Q0 hQ0 => ?_)
  have hI0 := hI
  obtain ⟨hM, hV, hF, hL1, hL8, hH, hX, hN⟩ := hI0
  obtain ⟨hVS, hT, hT9⟩ := hV
  obtain ⟨⟨hc, h1, h6⟩, hOQ, hTP, hHB, hSR⟩ := hVS
  have h10 := hOQ.2.1
  have hB9 : 3600 * (tm : Int) < 1000000000 := by omega
  refine v_eqh (CI_w hI) ?_
  have hI2 := hI.self
  refine v_aload_n X rfl dX6_door_0 ?_
  refine v_getf X fd_X6_19 (rd_BT γ _) rfl dX6_door_1 ?_
  refine v_getf X fd_X6_65 (rd_State γ _ _ (by decide)) rfl dX6_door_4 ?_
  refine v_iload_n X rfl dX6_door_7 ?_
  refine v_iload_n X rfl dX6_door_8 ?_
  refine v_callV (ci := 5) X mv_X6_94 (c_X5_hasDoor l γ W M 0 (by decide) cn hc h6 h1 x y) rfl rfl (rd_Train γ _ _ (by decide)) rfl ⟨Nat.le_of_ble_eq_true rfl, Nat.le_of_ble_eq_true rfl, Nat.le_of_ble_eq_true rfl, Nat.le_of_ble_eq_true rfl⟩ (Nat.le_of_ble_eq_true rfl) rfl dX6_door_9 rfl (det_i ?_)
  refine v_if_eq_b (tgt := 24) X dX6_door_12 (by decide) (fun q1 => ?_) (fun q1 => ?_)
  · have nok : ¬ ((¬ x < nI 0 ∧ ¬ nI (cn - 1) < x) ∧ (¬ y < nI 0 ∧ ¬ nI 2 < y) ∧ (¬ z < nI 0 ∧ ¬ nI 3 < z)) := fun z9 => q1 ⟨z9.1, z9.2.1⟩
    have ev : (-1002) = ((if ¬ x < nI 0 ∧ ¬ nI (cn - 1) < x then (if ¬ y < nI 0 ∧ ¬ nI 2 < y then (if ¬ z < nI 0 ∧ ¬ nI 3 < z then (M (120 + 8 * x.toNatClampNeg + (2 + y.toNatClampNeg))) else (-1002)) else (-1002)) else (-1002))) := (if3n nok).symm
    refine v_sipush' X ks_m1002 dX6_door_24 ?_
    subst hQ0
    exact v_iret X rfl (Nat.le_of_ble_eq_true rfl) (Nat.le_of_ble_eq_true rfl) dX6_door_27 ⟨so_some (ev), Or.inr ⟨nok, (CI_w hI).symm⟩⟩
  · obtain ⟨a1, ha1, rfl⟩ := in_nat (by omega) q1.1
    obtain ⟨b1, hb1, rfl⟩ := in_nat (by decide) q1.2
    have ej : (nI a1).toNatClampNeg = a1 := nI_clamp (by omega)
    have ej2 : (nI b1).toNatClampNeg = b1 := nI_clamp (by omega)
    refine v_iload_n X rfl dX6_door_15 ?_
    refine v_iconst' X kc_0 dX6_door_16 ?_
    refine v_iconst' X kc_3 dX6_door_17 ?_
    refine v_callS X ms_X6_33 (c_X6_isWithin l γ _ _ _ _) rfl ⟨Nat.le_of_ble_eq_true rfl, Nat.le_of_ble_eq_true rfl, Nat.le_of_ble_eq_true rfl, Nat.le_of_ble_eq_true rfl⟩ (Nat.le_of_ble_eq_true rfl) rfl dX6_door_18 rfl (det_i ?_)
    refine v_if_ne_b (tgt := 28) X dX6_door_21 (by decide) (fun q2 => ?_) (fun q2 => ?_)
    · have hok : (¬ nI a1 < nI 0 ∧ ¬ nI (cn - 1) < nI a1) ∧ (¬ nI b1 < nI 0 ∧ ¬ nI 2 < nI b1) ∧ (¬ z < nI 0 ∧ ¬ nI 3 < z) := ⟨q1.1, q1.2, q2⟩
      refine v_aload_n X rfl dX6_door_28 ?_
      refine v_getf X fd_X6_29 (rd_BT γ _) rfl dX6_door_29 ?_
      refine v_aload_n X rfl dX6_door_32 ?_
      refine v_getf X fd_X6_19 (rd_BT γ _) rfl dX6_door_33 ?_
      refine v_callV (ci := 1) X mv_X6_58 (k_keep l γ (wset W 0 M) nc M P T u t cn q tm hI2 hnc) rfl rfl (rd_Hist γ _) rfl ⟨Nat.le_of_ble_eq_true rfl, Nat.le_of_ble_eq_true rfl, Nat.le_of_ble_eq_true rfl, Nat.le_of_ble_eq_true rfl⟩ (Nat.le_of_ble_eq_true rfl) rfl dX6_door_36 rfl (nd_v (fun h9 hp9 => ?_))
      obtain ⟨W2, rfl, hI3, hR3, hE3, hl3⟩ := hp9
      refine v_eqh (CI_w hI3) ?_
      refine v_aload_n X rfl dX6_door_39 ?_
      refine v_getf X fd_X6_19 (rd_BT γ _) rfl dX6_door_40 ?_
      refine v_getf X fd_X6_65 (rd_State γ _ _ (by decide)) rfl dX6_door_43 ?_
      refine v_iload_n X rfl dX6_door_46 ?_
      refine v_iload_n X rfl dX6_door_47 ?_
      refine v_callV (ci := 5) X mv_X6_98 (c_X5_levelOf l γ W2 M 0 (by decide) cn hc h6 a1 b1 (by omega) (by omega)) rfl rfl (rd_Train γ _ _ (by decide)) rfl ⟨Nat.le_of_ble_eq_true rfl, Nat.le_of_ble_eq_true rfl, Nat.le_of_ble_eq_true rfl, Nat.le_of_ble_eq_true rfl⟩ (Nat.le_of_ble_eq_true rfl) rfl dX6_door_48 rfl (det_i ?_)
      refine v_istore X (Nat.le_of_ble_eq_true rfl) rfl dX6_door_51 ?_
      refine v_iload_n X rfl dX6_door_53 ?_
      refine v_if_ne (tgt := 81) X dX6_door_54 (by decide) (fun q3 => ?_) (fun q3 => ?_)
      · refine v_aload_n X rfl dX6_door_81 ?_
        refine v_getf X fd_X6_19 (rd_BT γ _) rfl dX6_door_82 ?_
        refine v_getf X fd_X6_65 (rd_State γ _ _ (by decide)) rfl dX6_door_85 ?_
        refine v_iload_n X rfl dX6_door_88 ?_
        refine v_iload_n X rfl dX6_door_89 ?_
        refine v_iload_n X rfl dX6_door_90 ?_
        refine v_callV (ci := 5) X mv_X6_106 (c_X5_openDoor l γ W2 M 0 (by decide) cn hc h6 a1 b1 (by omega) (by omega) z (open_x q2.1 q3)) rfl rfl (rd_Train γ _ _ (by decide)) rfl ⟨Nat.le_of_ble_eq_true rfl, Nat.le_of_ble_eq_true rfl, Nat.le_of_ble_eq_true rfl, Nat.le_of_ble_eq_true rfl⟩ (Nat.le_of_ble_eq_true rfl) rfl dX6_door_91 rfl (det_v ?_)
        refine v_iload X rfl dX6_door_94 ?_
        subst hQ0
        exact v_iret X rfl (Nat.le_of_ble_eq_true rfl) (Nat.le_of_ble_eq_true rfl) dX6_door_96 ⟨so_some (by rw [if3p hok, ej, ej2]), Or.inl ⟨hok, _, _, _, _, rfl, by rw [ej, ej2]; exact hI3.set0 (VT_door hI3.2.1 (by omega) (by omega) (by rw [← nI_0]; exact q2.1)) (fun i a b => q_moves_off M z (by omega) (by omega) (by omega)), RBz (RBs hR3)⟩⟩
      · refine v_aload_n X rfl dX6_door_57 ?_
        refine v_getf X fd_X6_19 (rd_BT γ _) rfl dX6_door_58 ?_
        refine v_getf X fd_X6_65 (rd_State γ _ _ (by decide)) rfl dX6_door_61 ?_
        refine v_iload_n X rfl dX6_door_64 ?_
        refine v_iload_n X rfl dX6_door_65 ?_
        refine v_aload_n X rfl dX6_door_66 ?_
        refine v_getf X fd_X6_19 (rd_BT γ _) rfl dX6_door_67 ?_
        refine v_getf X fd_X6_62 (rd_State γ _ _ (by decide)) rfl dX6_door_70 ?_
        refine v_iconst' X kc_2 dX6_door_73 ?_
        refine v_iald' X (v := (M (228 + (2)))) (rd_Settings γ _ _ (by decide)) (2) rfl (by omega) (by decide) (vw_at (by omega)) dX6_door_74 ?_
        refine v_callV (ci := 5) X mv_X6_102 (c_X5_closeDoor l γ W2 M 0 (by decide) cn hc h6 a1 b1 (by omega) (by omega) (hTP.1 a1 b1 (by omega) (by omega))) rfl rfl (rd_Train γ _ _ (by decide)) rfl ⟨Nat.le_of_ble_eq_true rfl, Nat.le_of_ble_eq_true rfl, Nat.le_of_ble_eq_true rfl, Nat.le_of_ble_eq_true rfl⟩ (Nat.le_of_ble_eq_true rfl) rfl dX6_door_75 rfl (det_v ?_)
        rw [show q_moves M a1 b1 (nI 0) = q_moves M a1 b1 z from by rw [q3, nI_0]]
        refine v_goto (tgt := 94) X dX6_door_78 (by decide) ?_
        refine v_iload X rfl dX6_door_94 ?_
        subst hQ0
        exact v_iret X rfl (Nat.le_of_ble_eq_true rfl) (Nat.le_of_ble_eq_true rfl) dX6_door_96 ⟨so_some (by rw [if3p hok, ej, ej2]), Or.inl ⟨hok, _, _, _, _, rfl, by rw [ej, ej2]; exact hI3.set0 (VT_door hI3.2.1 (by omega) (by omega) (by rw [← nI_0]; exact q2.1)) (fun i a b => q_moves_off M z (by omega) (by omega) (by omega)), RBz (RBs hR3)⟩⟩
    · have nok : ¬ ((¬ nI a1 < nI 0 ∧ ¬ nI (cn - 1) < nI a1) ∧ (¬ nI b1 < nI 0 ∧ ¬ nI 2 < nI b1) ∧ (¬ z < nI 0 ∧ ¬ nI 3 < z)) := fun z9 => q2 z9.2.2
      have ev : (-1002) = ((if ¬ nI a1 < nI 0 ∧ ¬ nI (cn - 1) < nI a1 then (if ¬ nI b1 < nI 0 ∧ ¬ nI 2 < nI b1 then (if ¬ z < nI 0 ∧ ¬ nI 3 < z then (M (120 + 8 * (nI a1).toNatClampNeg + (2 + (nI b1).toNatClampNeg))) else (-1002)) else (-1002)) else (-1002))) := (if3n nok).symm
      refine v_sipush' X ks_m1002 dX6_door_24 ?_
      subst hQ0
      exact v_iret X rfl (Nat.le_of_ble_eq_true rfl) (Nat.le_of_ble_eq_true rfl) dX6_door_27 ⟨so_some (ev), Or.inr ⟨nok, (CI_w hI).symm⟩⟩
set_option maxHeartbeats 4000000 in
set_option maxRecDepth 100000 in
theorem c_X6_wish (l : Launch) (γ : Gm) (W : Wd) (nc : Nat) (M P T : Nat → Int32) (u t cn q tm : Nat) (hI : CI γ W nc M P T u t cn q tm) (hnc : nc < 600) (x : Int32) : Cr l γ yX6_wish cX6_wish 3 (some .int) 10 235 12 180 [.ref γ.1, .int x] (rdw γ W) (fun v h' => v = some (.int ((if ¬ x < nI 0 ∧ ¬ nI 3 < x then (M 221) else (-1002)))) ∧ ((((¬ x < nI 0 ∧ ¬ nI 3 < x)) ∧ ∃ (W' : Wd) (cn2 q2 tm2 : Nat), h' = rdw γ W' ∧ CI γ W' (nc + 1) (upd M 221 x) (s_keepP M P u) T (s_u u) t cn2 q2 tm2 ∧ RB W W') ∨ (¬ ((¬ x < nI 0 ∧ ¬ nI 3 < x)) ∧ h' = rdw γ W))) := by
  refine Cr_of [some (.ref γ.1), some (.int x), none] (by decide +kernel) (Nat.le_of_ble_eq_true rfl) rfl ?_
  intro p e s m args below meth c X
  refine v_q0 (fun Q0 hQ0 => ?_)
  have hI0 := hI
  obtain ⟨hM, hV, hF, hL1, hL8, hH, hX, hN⟩ := hI0
  obtain ⟨hVS, hT, hT9⟩ := hV
  obtain ⟨⟨hc, h1, h6⟩, hOQ, hTP, hHB, hSR⟩ := hVS
  have h10 := hOQ.2.1
  have hB9 : 3600 * (tm : Int) < 1000000000 := by omega
  refine v_eqh (CI_w hI) ?_
  have hI2 := hI.self
  refine v_iload_n X rfl dX6_wish_0 ?_
  refine v_iconst' X kc_0 dX6_wish_1 ?_
  refine v_iconst' X kc_3 dX6_wish_2 ?_
  refine v_callS X ms_X6_33 (c_X6_isWithin l γ _ _ _ _) rfl ⟨Nat.le_of_ble_eq_true rfl, Nat.le_of_ble_eq_true rfl, Nat.le_of_ble_eq_true rfl, Nat.le_of_ble_eq_true rfl⟩ (Nat.le_of_ble_eq_true rfl) rfl dX6_wish_3 rfl (det_i ?_)
  refine v_if_ne_b (tgt := 13) X dX6_wish_6 (by decide) (fun q1 => ?_) (fun q1 => ?_)
  · refine v_aload_n X rfl dX6_wish_13 ?_
    refine v_getf X fd_X6_29 (rd_BT γ _) rfl dX6_wish_14 ?_
    refine v_aload_n X rfl dX6_wish_17 ?_
    refine v_getf X fd_X6_19 (rd_BT γ _) rfl dX6_wish_18 ?_
    refine v_callV (ci := 1) X mv_X6_58 (k_keep l γ (wset W 0 M) nc M P T u t cn q tm hI2 hnc) rfl rfl (rd_Hist γ _) rfl ⟨Nat.le_of_ble_eq_true rfl, Nat.le_of_ble_eq_true rfl, Nat.le_of_ble_eq_true rfl, Nat.le_of_ble_eq_true rfl⟩ (Nat.le_of_ble_eq_true rfl) rfl dX6_wish_21 rfl (nd_v (fun h9 hp9 => ?_))
    obtain ⟨W2, rfl, hI3, hR3, hE3, hl3⟩ := hp9
    refine v_eqh (CI_w hI3) ?_
    refine v_aload_n X rfl dX6_wish_24 ?_
    refine v_getf X fd_X6_19 (rd_BT γ _) rfl dX6_wish_25 ?_
    refine v_getf X fd_X6_65 (rd_State γ _ _ (by decide)) rfl dX6_wish_28 ?_
    refine v_getf X (v := .int (M 221)) fd_X6_109 (rd_Train γ _ _ (by decide)) rfl dX6_wish_31 ?_
    refine v_istore_n X (Nat.le_of_ble_eq_true rfl) rfl dX6_wish_34 ?_
    refine v_aload_n X rfl dX6_wish_35 ?_
    refine v_getf X fd_X6_19 (rd_BT γ _) rfl dX6_wish_36 ?_
    refine v_getf X fd_X6_65 (rd_State γ _ _ (by decide)) rfl dX6_wish_39 ?_
    refine v_iload_n X rfl dX6_wish_42 ?_
    refine v_putf X fp_X6_109 (rd_Train γ _ _ (by decide)) rfl rfl (Nat.le_of_ble_eq_true rfl) dX6_wish_43 ?_
    refine v_eqh (up_wish γ _ _ (by decide) _) ?_
    refine v_iload_n X rfl dX6_wish_46 ?_
    subst hQ0
    exact v_iret X rfl (Nat.le_of_ble_eq_true rfl) (Nat.le_of_ble_eq_true rfl) dX6_wish_47 ⟨so_some ((if_pos q1).symm), Or.inl ⟨q1, _, _, _, _, rfl, hI3.set0 (hI3.2.1.upd (by omega) (by omega) (by omega) (by omega)) (fun i a b => pk_un (by omega)), RBz (RBs hR3)⟩⟩
  · refine v_sipush' X ks_m1002 dX6_wish_9 ?_
    subst hQ0
    exact v_iret X rfl (Nat.le_of_ble_eq_true rfl) (Nat.le_of_ble_eq_true rfl) dX6_wish_12 ⟨so_some ((if_neg q1).symm), Or.inr ⟨q1, (CI_w hI).symm⟩⟩
set_option maxHeartbeats 4000000 in
set_option maxRecDepth 100000 in
theorem c_X6_scrape (l : Launch) (γ : Gm) (W : Wd) (nc : Nat) (M P T : Nat → Int32) (u t cn q tm : Nat) (hI : CI γ W nc M P T u t cn q tm) (hnc : nc < 600) (x y z : Int32) : Cr l γ yX6_scrape cX6_scrape 5 (some .int) 10 235 12 180 [.ref γ.1, .int x, .int y, .int z] (rdw γ W) (fun v h' => v = some (.int ((if ¬ x < nI 0 ∧ ¬ nI 39 < x then (if ¬ y < nI 0 ∧ ¬ nI 2 < y then (if ¬ z < nI 1 ∧ ¬ nI 60 < z then (s_min z (M (3 * x.toNatClampNeg + y.toNatClampNeg))) else (-1002)) else (-1002)) else (-1002)))) ∧ ((((¬ x < nI 0 ∧ ¬ nI 39 < x) ∧ (¬ y < nI 0 ∧ ¬ nI 2 < y) ∧ (¬ z < nI 1 ∧ ¬ nI 60 < z)) ∧ ∃ (W' : Wd) (cn2 q2 tm2 : Nat), h' = rdw γ W' ∧ CI γ W' (nc + 1) (q_scr M x.toNatClampNeg y.toNatClampNeg (s_min z (M (3 * x.toNatClampNeg + y.toNatClampNeg)))) (s_keepP M P u) T (s_u u) t cn2 q2 tm2 ∧ RB W W') ∨ (¬ ((¬ x < nI 0 ∧ ¬ nI 39 < x) ∧ (¬ y < nI 0 ∧ ¬ nI 2 < y) ∧ (¬ z < nI 1 ∧ ¬ nI 60 < z)) ∧ h' = rdw γ W))) := by
  refine Cr_of [some (.ref γ.1), some (.int x), some (.int y), some (.int z), none] (by decide +kernel) (Nat.le_of_ble_eq_true rfl) rfl ?_
  intro p e s m args below meth c X
  refine v_q0 (fun Q0 hQ0 => ?_)
  have hI0 := hI
  obtain ⟨hM, hV, hF, hL1, hL8, hH, hX, hN⟩ := hI0
  obtain ⟨hVS, hT, hT9⟩ := hV
  obtain ⟨⟨hc, h1, h6⟩, hOQ, hTP, hHB, hSR⟩ := hVS
  have h10 := hOQ.2.1
  have hB9 : 3600 * (tm : Int) < 1000000000 := by omega
  refine v_eqh (CI_w hI) ?_
  have hI2 := hI.self
  refine v_iload_n X rfl dX6_scrape_0 ?_
  refine v_iload_n X rfl dX6_scrape_1 ?_
  refine v_callS X ms_X6_139 (c_X4_has l γ _ _ _) rfl ⟨Nat.le_of_ble_eq_true rfl, Nat.le_of_ble_eq_true rfl, Nat.le_of_ble_eq_true rfl, Nat.le_of_ble_eq_true rfl⟩ (Nat.le_of_ble_eq_true rfl) rfl dX6_scrape_2 rfl (det_i ?_)
  refine v_if_eq_b (tgt := 18) X dX6_scrape_5 (by decide) (fun q1 => ?_) (fun q1 => ?_)
  · have nok : ¬ ((¬ x < nI 0 ∧ ¬ nI 39 < x) ∧ (¬ y < nI 0 ∧ ¬ nI 2 < y) ∧ (¬ z < nI 1 ∧ ¬ nI 60 < z)) := fun z9 => q1 ⟨z9.1, z9.2.1⟩
    have ev : (-1002) = ((if ¬ x < nI 0 ∧ ¬ nI 39 < x then (if ¬ y < nI 0 ∧ ¬ nI 2 < y then (if ¬ z < nI 1 ∧ ¬ nI 60 < z then (s_min z (M (3 * x.toNatClampNeg + y.toNatClampNeg))) else (-1002)) else (-1002)) else (-1002))) := (if3n nok).symm
    refine v_sipush' X ks_m1002 dX6_scrape_18 ?_
    subst hQ0
    exact v_iret X rfl (Nat.le_of_ble_eq_true rfl) (Nat.le_of_ble_eq_true rfl) dX6_scrape_21 ⟨so_some (ev), Or.inr ⟨nok, (CI_w hI).symm⟩⟩
  · obtain ⟨a1, ha1, rfl⟩ := in_nat (by decide) q1.1
    obtain ⟨b1, hb1, rfl⟩ := in_nat (by decide) q1.2
    have ej : (nI a1).toNatClampNeg = a1 := nI_clamp (by omega)
    have ej2 : (nI b1).toNatClampNeg = b1 := nI_clamp (by omega)
    refine v_iload_n X rfl dX6_scrape_8 ?_
    refine v_iconst' X kc_1 dX6_scrape_9 ?_
    refine v_bipush' X kb_60 dX6_scrape_10 ?_
    refine v_callS X ms_X6_33 (c_X6_isWithin l γ _ _ _ _) rfl ⟨Nat.le_of_ble_eq_true rfl, Nat.le_of_ble_eq_true rfl, Nat.le_of_ble_eq_true rfl, Nat.le_of_ble_eq_true rfl⟩ (Nat.le_of_ble_eq_true rfl) rfl dX6_scrape_12 rfl (det_i ?_)
    refine v_if_ne_b (tgt := 22) X dX6_scrape_15 (by decide) (fun q2 => ?_) (fun q2 => ?_)
    · have hok : (¬ nI a1 < nI 0 ∧ ¬ nI 39 < nI a1) ∧ (¬ nI b1 < nI 0 ∧ ¬ nI 2 < nI b1) ∧ (¬ z < nI 1 ∧ ¬ nI 60 < z) := ⟨q1.1, q1.2, q2⟩
      refine v_aload_n X rfl dX6_scrape_22 ?_
      refine v_getf X fd_X6_29 (rd_BT γ _) rfl dX6_scrape_23 ?_
      refine v_aload_n X rfl dX6_scrape_26 ?_
      refine v_getf X fd_X6_19 (rd_BT γ _) rfl dX6_scrape_27 ?_
      refine v_callV (ci := 1) X mv_X6_58 (k_keep l γ (wset W 0 M) nc M P T u t cn q tm hI2 hnc) rfl rfl (rd_Hist γ _) rfl ⟨Nat.le_of_ble_eq_true rfl, Nat.le_of_ble_eq_true rfl, Nat.le_of_ble_eq_true rfl, Nat.le_of_ble_eq_true rfl⟩ (Nat.le_of_ble_eq_true rfl) rfl dX6_scrape_30 rfl (nd_v (fun h9 hp9 => ?_))
      obtain ⟨W2, rfl, hI3, hR3, hE3, hl3⟩ := hp9
      refine v_eqh (CI_w hI3) ?_
      refine v_iload_n X rfl dX6_scrape_33 ?_
      refine v_aload_n X rfl dX6_scrape_34 ?_
      refine v_getf X fd_X6_19 (rd_BT γ _) rfl dX6_scrape_35 ?_
      refine v_getf X fd_X6_144 (rd_State γ _ _ (by decide)) rfl dX6_scrape_38 ?_
      refine v_iload_n X rfl dX6_scrape_41 ?_
      refine v_iload_n X rfl dX6_scrape_42 ?_
      refine v_callV (ci := 4) X mv_X6_148 (c_X4_heightAt l γ W2 M 0 (by decide) a1 b1 (by omega) (by omega)) rfl rfl (rd_Track γ _ _ (by decide)) rfl ⟨Nat.le_of_ble_eq_true rfl, Nat.le_of_ble_eq_true rfl, Nat.le_of_ble_eq_true rfl, Nat.le_of_ble_eq_true rfl⟩ (Nat.le_of_ble_eq_true rfl) rfl dX6_scrape_43 rfl (det_i ?_)
      refine v_mmin X mm_X6_151 (Nat.le_of_ble_eq_true rfl) (Nat.le_of_ble_eq_true rfl) (Nat.le_of_ble_eq_true rfl) (Nat.le_of_ble_eq_true rfl) rfl dX6_scrape_46 ?_
      rw [min_lt]
      rw [show (if z < M (3 * a1 + b1) then z else M (3 * a1 + b1)) = s_min z (M (3 * a1 + b1)) from rfl]
      refine v_istore X (Nat.le_of_ble_eq_true rfl) rfl dX6_scrape_49 ?_
      refine v_aload_n X rfl dX6_scrape_51 ?_
      refine v_getf X fd_X6_19 (rd_BT γ _) rfl dX6_scrape_52 ?_
      refine v_getf X fd_X6_144 (rd_State γ _ _ (by decide)) rfl dX6_scrape_55 ?_
      refine v_iload_n X rfl dX6_scrape_58 ?_
      refine v_iload_n X rfl dX6_scrape_59 ?_
      refine v_iload X rfl dX6_scrape_60 ?_
      refine v_ineg X dX6_scrape_62 ?_
      refine v_callV (ci := 4) X mv_X6_156 (c_X4_add l γ W2 M 0 (by decide) a1 b1 (by omega) (by omega) _) rfl rfl (rd_Track γ _ _ (by decide)) rfl ⟨Nat.le_of_ble_eq_true rfl, Nat.le_of_ble_eq_true rfl, Nat.le_of_ble_eq_true rfl, Nat.le_of_ble_eq_true rfl⟩ (Nat.le_of_ble_eq_true rfl) rfl dX6_scrape_63 rfl (det_v ?_)
      rw [← Int32.sub_eq_add_neg]
      refine v_aload_n X rfl dX6_scrape_66 ?_
      refine v_getf X fd_X6_19 (rd_BT γ _) rfl dX6_scrape_67 ?_
      refine v_dup X rfl dX6_scrape_70 ?_
      refine v_getf X (v := .int ((upd M (3 * a1 + b1) (M (3 * a1 + b1) - (s_min z (M (3 * a1 + b1))))) 227)) fd_X6_79 (rd_State γ _ _ (by decide)) rfl dX6_scrape_71 ?_
      refine v_iload X rfl dX6_scrape_74 ?_
      refine v_iadd X dX6_scrape_76 ?_
      refine v_putf X fp_X6_79 (rd_State γ _ _ (by decide)) rfl rfl (Nat.le_of_ble_eq_true rfl) dX6_scrape_77 ?_
      refine v_eqh (up_taken γ _ _ (by decide) _) ?_
      refine v_iload X rfl dX6_scrape_80 ?_
      subst hQ0
      exact v_iret X rfl (Nat.le_of_ble_eq_true rfl) (Nat.le_of_ble_eq_true rfl) dX6_scrape_82 ⟨so_some (by rw [if3p hok, ej, ej2]), Or.inl ⟨hok, _, _, _, _, rfl, by unfold q_scr; rw [ej, ej2]; exact hI3.set0 (VT_scrape hI3.2.1 (by omega) (by omega) q2.1) (fun i a b => (pk_un (by omega)).trans (pk_un (by omega))), RBz (RBs hR3)⟩⟩
    · have nok : ¬ ((¬ nI a1 < nI 0 ∧ ¬ nI 39 < nI a1) ∧ (¬ nI b1 < nI 0 ∧ ¬ nI 2 < nI b1) ∧ (¬ z < nI 1 ∧ ¬ nI 60 < z)) := fun z9 => q2 z9.2.2
      have ev : (-1002) = ((if ¬ nI a1 < nI 0 ∧ ¬ nI 39 < nI a1 then (if ¬ nI b1 < nI 0 ∧ ¬ nI 2 < nI b1 then (if ¬ z < nI 1 ∧ ¬ nI 60 < z then (s_min z (M (3 * (nI a1).toNatClampNeg + (nI b1).toNatClampNeg))) else (-1002)) else (-1002)) else (-1002))) := (if3n nok).symm
      refine v_sipush' X ks_m1002 dX6_scrape_18 ?_
      subst hQ0
      exact v_iret X rfl (Nat.le_of_ble_eq_true rfl) (Nat.le_of_ble_eq_true rfl) dX6_scrape_21 ⟨so_some (ev), Or.inr ⟨nok, (CI_w hI).symm⟩⟩
