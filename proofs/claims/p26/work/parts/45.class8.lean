/-! the history -/
theorem xor_nn {a : Nat} (h : a < 1024) : 0 ≤ (nI a ^^^ nI 6) := (by decide +kernel : ∀ a, a < 1024 → 0 ≤ (nI a ^^^ nI 6)) a h
theorem min_u {u : Nat} (h : u ≤ 6) : (if nI 6 < nI (u + 1) then nI 6 else nI (u + 1)) = nI (s_u u) := by
  unfold s_u
  by_cases e : u = 6
  · subst e; decide
  · rw [if_neg e, if_neg (nI_nlt (by omega) (by decide))]
set_option maxHeartbeats 4000000 in
set_option maxRecDepth 100000 in
theorem c_J9_floorMod_7cf53 (l : Launch) (γ : Gm) (h : HP) (a : Nat) (ha : a < 1024) : Cr l γ yJ9_floorMod_7cf53 cJ9_floorMod_7cf53 3 (some .int) 0 0 0 0 [.int (nI a), .int (nI 6)] (h) (Det (some (.int (nI (a % 6)))) h) := by
  refine Cr_of [some (.int (nI a)), some (.int (nI 6)), none] (by decide +kernel) (Nat.le_of_ble_eq_true rfl) rfl ?_
  intro p e s m args below meth c X
  refine v_q0 (fun Q0 hQ0 => ?_)
  refine v_iload_n X rfl dJ9_floorMod_7cf53_0 ?_
  refine v_iload_n X rfl dJ9_floorMod_7cf53_1 ?_
  refine v_irem' X (by omega) (by decide) (by decide) dJ9_floorMod_7cf53_2 ?_
  refine v_istore_n X (Nat.le_of_ble_eq_true rfl) rfl dJ9_floorMod_7cf53_3 ?_
  refine v_iload_n X rfl dJ9_floorMod_7cf53_4 ?_
  refine v_iload_n X rfl dJ9_floorMod_7cf53_5 ?_
  refine v_ixor X dJ9_floorMod_7cf53_6 ?_
  refine v_if_ge_t (tgt := 18) X dJ9_floorMod_7cf53_7 (by decide) (xor_nn ha) ?_
  refine v_iload_n X rfl dJ9_floorMod_7cf53_18 ?_
  subst hQ0
  exact v_iret X rfl (Nat.le_of_ble_eq_true rfl) (Nat.le_of_ble_eq_true rfl) dJ9_floorMod_7cf53_19 ⟨rfl, rfl⟩
theorem hst_w {W W2 : Wd} {k c : Nat} {A G : Nat → Int32} (h : W2.1 = (wset W k A).1) : (wset W2 9 G).1 c = (wset (wset W k A) 9 G).1 c := by
  by_cases hc : c = 9
  · subst hc; rw [ws_same, ws_same]
  · rw [ws_ne _ _ hc, ws_ne _ _ hc, h]
set_option maxHeartbeats 4000000 in
set_option maxRecDepth 100000 in
theorem c_X0_keep (l : Launch) (γ : Gm) (W : Wd) (nx u : Nat) (hx : W.1 9 0 = nI nx) (hu : W.1 9 1 = nI u) (h6u : u ≤ 6) (hnx : nx < 1000) (q : Nat) (h10 : q ≤ 10) (hQ : LQ γ W (nx % 6 + 2)) (hL : LF γ W 0 168 q (W.1 0)) : Cr l γ yX0_keep cX0_keep 2 none 9 214 12 180 [.ref (γ.1 + 24), .ref (γ.1 + so 0)] (rdw γ W) (fun v h' => v = none ∧ ∃ W' : Wd, h' = rdw γ W' ∧ W'.1 = (wset (wset W (nx % 6 + 2) (W.1 0)) 9 (upd (upd (W.1 9) 0 (nI (nx + 1))) 1 (nI (s_u u)))).1 ∧ (∀ c, c ≠ nx % 6 + 2 → W'.2.1 c = W.2.1 c) ∧ Ext W W' ∧ LF γ W' (nx % 6 + 2) 168 q (W.1 0)) := by
  refine Cr_of [some (.ref (γ.1 + 24)), some (.ref (γ.1 + so 0))] (by decide +kernel) (Nat.le_of_ble_eq_true rfl) rfl ?_
  intro p e s m args below meth c X
  refine v_q0 (fun Q0 hQ0 => ?_)
  refine v_aload_n X rfl dX0_keep_0 ?_
  refine v_getf X fd_X0_11 (rd_Hist γ _) rfl dX0_keep_1 ?_
  refine v_aload_n X rfl dX0_keep_4 ?_
  refine v_getf X (v := (.int (W.1 9 0))) fd_X0_17 (rd_Hist γ _) rfl dX0_keep_5 ?_
  rw [hx]
  refine v_bipush' X kb_6 dX0_keep_8 ?_
  refine v_callS X ms_X0_25 (c_J9_floorMod_7cf53 l γ _ nx (by omega)) rfl ⟨Nat.le_of_ble_eq_true rfl, Nat.le_of_ble_eq_true rfl, Nat.le_of_ble_eq_true rfl, Nat.le_of_ble_eq_true rfl⟩ (Nat.le_of_ble_eq_true rfl) rfl dX0_keep_10 rfl (det_i ?_)
  refine v_aald (t0 := 1) X (rd_HStates γ W) rfl (nx % 6) rfl (by omega) (by omega) rfl dX0_keep_13 ?_
  refine v_aload_n X rfl dX0_keep_14 ?_
  refine v_eqh (congrArg (rdw γ) (wset_self W (nx % 6 + 2)).symm) ?_
  refine v_callV (ci := 2) X mv_X0_31 (c_X2_copyFrom l γ W (nx % 6 + 2) 0 (W.1 (nx % 6 + 2)) (by omega) (by decide) (by omega) q h10 hQ hL) rfl rfl (rd_State γ _ _ (by omega : nx % 6 + 2 < 8)) rfl ⟨Nat.le_of_ble_eq_true rfl, Nat.le_of_ble_eq_true rfl, Nat.le_of_ble_eq_true rfl, Nat.le_of_ble_eq_true rfl⟩ (Nat.le_of_ble_eq_true rfl) rfl dX0_keep_15 rfl (nd_v (fun h9 hp9 => ?_))
  obtain ⟨W2, rfl, hA, hLs, hE, hF⟩ := hp9
  have e9 : W2.1 9 = W.1 9 := by rw [hA]; exact ws_ne _ _ (by omega)
  refine v_aload_n X rfl dX0_keep_18 ?_
  refine v_dup X rfl dX0_keep_19 ?_
  refine v_getf X (v := (.int (W2.1 9 0))) fd_X0_17 (rd_Hist γ _) rfl dX0_keep_20 ?_
  rw [e9, hx]
  refine v_iconst' X kc_1 dX0_keep_23 ?_
  refine v_iadd' X (nI_add _ _) dX0_keep_24 ?_
  refine v_putf X fp_X0_17 (rd_Hist γ _) rfl rfl (Nat.le_of_ble_eq_true rfl) dX0_keep_25 ?_
  refine v_eqh (uq_next γ _ _) ?_
  rw [e9]
  refine v_aload_n X rfl dX0_keep_28 ?_
  refine v_aload_n X rfl dX0_keep_29 ?_
  refine v_getf X (v := (.int ((wset W2 9 (upd (W.1 9) 0 (nI (nx + 1)))).1 9 1))) fd_X0_21 (rd_Hist γ _) rfl dX0_keep_30 ?_
  rw [ws_same, pk_un (by decide), hu]
  refine v_iconst' X kc_1 dX0_keep_33 ?_
  refine v_iadd' X (nI_add _ _) dX0_keep_34 ?_
  refine v_bipush' X kb_6 dX0_keep_35 ?_
  refine v_mmin X mm_X0_35 (Nat.le_of_ble_eq_true rfl) (Nat.le_of_ble_eq_true rfl) (Nat.le_of_ble_eq_true rfl) (Nat.le_of_ble_eq_true rfl) rfl dX0_keep_37 ?_
  rw [min_u h6u]
  refine v_putf X fp_X0_21 (rd_Hist γ _) rfl rfl (Nat.le_of_ble_eq_true rfl) dX0_keep_40 ?_
  refine v_eqh (uq_size γ _ _) ?_
  rw [ws_same, wset_wset]
  subst hQ0
  exact v_vret X rfl (Nat.le_of_ble_eq_true rfl) (Nat.le_of_ble_eq_true rfl) dX0_keep_43 ⟨rfl, _, rfl, by funext c; rw [hst_w hA], hLs, hE, hF⟩
set_option maxHeartbeats 4000000 in
set_option maxRecDepth 100000 in
theorem c_X0_restore (l : Launch) (γ : Gm) (W : Wd) (nx u : Nat) (hx : W.1 9 0 = nI nx) (hu : W.1 9 1 = nI u) (h6u : u ≤ 6) (hnx : nx < 1000) (q : Nat) (h10 : q ≤ 10) (hx1 : 1 ≤ nx) (hu1 : 1 ≤ u) (hQ : LQ γ W 0) (hL : LF γ W ((nx - 1) % 6 + 2) 168 q (W.1 ((nx - 1) % 6 + 2))) : Cr l γ yX0_restore cX0_restore 2 none 9 214 12 180 [.ref (γ.1 + 24), .ref (γ.1 + so 0)] (rdw γ W) (fun v h' => v = none ∧ ∃ W' : Wd, h' = rdw γ W' ∧ W'.1 = (wset (wset W 9 (upd (upd (W.1 9) 0 (nI (nx - 1))) 1 (nI (u - 1)))) 0 (W.1 ((nx - 1) % 6 + 2))).1 ∧ (∀ c, c ≠ 0 → W'.2.1 c = W.2.1 c) ∧ Ext W W' ∧ LF γ W' 0 168 q (W.1 ((nx - 1) % 6 + 2))) := by
  refine Cr_of [some (.ref (γ.1 + 24)), some (.ref (γ.1 + so 0))] (by decide +kernel) (Nat.le_of_ble_eq_true rfl) rfl ?_
  intro p e s m args below meth c X
  refine v_q0 (fun Q0 hQ0 => ?_)
  refine v_aload_n X rfl dX0_restore_0 ?_
  refine v_dup X rfl dX0_restore_1 ?_
  refine v_getf X (v := (.int (W.1 9 0))) fd_X0_17 (rd_Hist γ _) rfl dX0_restore_2 ?_
  rw [hx]
  refine v_iconst' X kc_1 dX0_restore_5 ?_
  refine v_isub' X (v := nI (nx - 1)) (pk_sub hx1) dX0_restore_6 ?_
  refine v_putf X fp_X0_17 (rd_Hist γ _) rfl rfl (Nat.le_of_ble_eq_true rfl) dX0_restore_7 ?_
  refine v_eqh (uq_next γ _ _) ?_
  refine v_aload_n X rfl dX0_restore_10 ?_
  refine v_dup X rfl dX0_restore_11 ?_
  refine v_getf X (v := (.int ((wset W 9 (upd (W.1 9) 0 (nI (nx - 1)))).1 9 1))) fd_X0_21 (rd_Hist γ _) rfl dX0_restore_12 ?_
  rw [ws_same, pk_un (by decide), hu]
  refine v_iconst' X kc_1 dX0_restore_15 ?_
  refine v_isub' X (v := nI (u - 1)) (pk_sub hu1) dX0_restore_16 ?_
  refine v_putf X fp_X0_21 (rd_Hist γ _) rfl rfl (Nat.le_of_ble_eq_true rfl) dX0_restore_17 ?_
  refine v_eqh (uq_size γ _ _) ?_
  rw [ws_same, wset_wset]
  refine v_aload_n X rfl dX0_restore_20 ?_
  refine v_aload_n X rfl dX0_restore_21 ?_
  refine v_getf X fd_X0_11 (rd_Hist γ _) rfl dX0_restore_22 ?_
  refine v_aload_n X rfl dX0_restore_25 ?_
  refine v_getf X (v := (.int ((wset W 9 (upd (upd (W.1 9) 0 (nI (nx - 1))) 1 (nI (u - 1)))).1 9 0))) fd_X0_17 (rd_Hist γ _) rfl dX0_restore_26 ?_
  rw [ws_same, pk_un (by decide), pk_us]
  refine v_bipush' X kb_6 dX0_restore_29 ?_
  refine v_callS X ms_X0_25 (c_J9_floorMod_7cf53 l γ _ (nx - 1) (by omega)) rfl ⟨Nat.le_of_ble_eq_true rfl, Nat.le_of_ble_eq_true rfl, Nat.le_of_ble_eq_true rfl, Nat.le_of_ble_eq_true rfl⟩ (Nat.le_of_ble_eq_true rfl) rfl dX0_restore_31 rfl (det_i ?_)
  refine v_aald (t0 := 1) X (rd_HStates γ _) rfl ((nx - 1) % 6) rfl (by omega) (by omega) rfl dX0_restore_34 ?_
  refine v_eqh (congrArg (rdw γ) (wset_self (wset W 9 (upd (upd (W.1 9) 0 (nI (nx - 1))) 1 (nI (u - 1)))) 0).symm) ?_
  refine v_callV (ci := 2) X mv_X0_31 (c_X2_copyFrom l γ (wset W 9 (upd (upd (W.1 9) 0 (nI (nx - 1))) 1 (nI (u - 1)))) 0 ((nx - 1) % 6 + 2) ((wset W 9 (upd (upd (W.1 9) 0 (nI (nx - 1))) 1 (nI (u - 1)))).1 0) (by decide) (by omega) (by omega) q h10 hQ (by rw [ws_ne _ _ (by omega)]; exact hL)) rfl rfl (rd_State γ _ _ (by decide)) rfl ⟨Nat.le_of_ble_eq_true rfl, Nat.le_of_ble_eq_true rfl, Nat.le_of_ble_eq_true rfl, Nat.le_of_ble_eq_true rfl⟩ (Nat.le_of_ble_eq_true rfl) rfl dX0_restore_35 rfl (nd_v (fun h9 hp9 => ?_))
  obtain ⟨W2, rfl, hA, hLs, hE, hF⟩ := hp9
  rw [ws_ne _ _ (by omega)] at hA hF
  subst hQ0
  exact v_vret X rfl (Nat.le_of_ble_eq_true rfl) (Nat.le_of_ble_eq_true rfl) dX0_restore_38 ⟨rfl, W2, rfl, hA, hLs, hE, hF⟩
