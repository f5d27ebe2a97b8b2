set_option maxHeartbeats 4000000 in
set_option maxRecDepth 100000 in
theorem c_J8_newLength_cabcc (l : Launch) (γ : Gm) (h : HP) : Cr l γ yJ8_newLength_cabcc cJ8_newLength_cabcc 4 (some .int) 1 24 0 0 [.int (nI 10), .int (nI 1), .int (nI 5)] (h) (Det (some (.int (nI 15))) h) := by
  refine Cr_of [some (.int (nI 10)), some (.int (nI 1)), some (.int (nI 5)), none] (by decide +kernel) (Nat.le_of_ble_eq_true rfl) rfl ?_
  intro p e s m args below meth c X
  refine v_q0 (fun Q0 hQ0 => ?_)
  refine v_iload_n X rfl dJ8_newLength_cabcc_0 ?_
  refine v_iload_n X rfl dJ8_newLength_cabcc_1 ?_
  refine v_iload_n X rfl dJ8_newLength_cabcc_2 ?_
  refine v_mmax X mm_J8_194 (Nat.le_of_ble_eq_true rfl) (Nat.le_of_ble_eq_true rfl) (Nat.le_of_ble_eq_true rfl) (Nat.le_of_ble_eq_true rfl) rfl dJ8_newLength_cabcc_3 ?_
  refine v_iadd' X (v := nI 15) (by decide) dJ8_newLength_cabcc_6 ?_
  refine v_istore_n X (Nat.le_of_ble_eq_true rfl) rfl dJ8_newLength_cabcc_7 ?_
  refine v_iconst' X kc_0 dJ8_newLength_cabcc_8 ?_
  refine v_iload_n X rfl dJ8_newLength_cabcc_9 ?_
  refine v_icmp_ge_f (tgt := 21) X dJ8_newLength_cabcc_10 (by decide) (by decide) ?_
  refine v_iload_n X rfl dJ8_newLength_cabcc_13 ?_
  refine v_ldcI X ki_J8_200 dJ8_newLength_cabcc_14 ?_
  refine v_icmp_gt_f (tgt := 21) X dJ8_newLength_cabcc_16 (by decide) (by decide) ?_
  refine v_iload_n X rfl dJ8_newLength_cabcc_19 ?_
  subst hQ0
  exact v_iret X rfl (Nat.le_of_ble_eq_true rfl) (Nat.le_of_ble_eq_true rfl) dJ8_newLength_cabcc_20 ⟨rfl, rfl⟩
set_option maxHeartbeats 4000000 in
set_option maxRecDepth 100000 in
theorem c_J7_copyOf_6403c (l : Launch) (γ : Gm) (W : Wd) (j : Nat) (mc : Int32) (d : Nat) (row : Nat → Option Nat) (hj : j < 9) (hv : W.2.1 j = (mc, 10, d, 10, row)) (hd : γ.1 + 92 ≤ d) (hy : W.2.2.1 d = some (.inl j)) (hlo : LO γ W row 10) (hn : γ.1 + 92 ≤ W.2.2.2.2) (hdn : d < W.2.2.2.2) : Cr l γ yJ7_copyOf_6403c cJ7_copyOf_6403c 4 (some (.array (.object "java/lang/Object"))) 1 40 1 15 [.ref d, .int (nI 15), .ref (γ.2.2.2 3)] (rdw γ W) (Det (some (.ref W.2.2.2.2)) (hnew (rdw γ W) (rE γ 2 15 (c_ten row)))) := by
  refine Cr_of [some (.ref d), some (.int (nI 15)), some (.ref (γ.2.2.2 3)), none] (by decide +kernel) (Nat.le_of_ble_eq_true rfl) rfl ?_
  intro p e s m args below meth c X
  refine v_q0 (fun Q0 hQ0 => ?_)
  refine v_aload_n X rfl dJ7_copyOf_6403c_0 ?_
  refine v_ldcM X cl_J7_110 (cx_Mi X) dJ7_copyOf_6403c_1 ?_
  refine v_acmp_ne (tgt := 13) X dJ7_copyOf_6403c_3 (by decide) (fun c_1 => ?_) (fun c_1 => ?_)
  · exact absurd rfl c_1
  · refine v_iload_n X rfl dJ7_copyOf_6403c_6 ?_
    refine v_anew (t0 := 2) X 15 rfl (by decide) cl_J7_2 (cx_AO X) rfl (Nat.le_of_ble_eq_true rfl) (Nat.le_of_ble_eq_true rfl) dJ7_copyOf_6403c_7 ?_
    refine v_goto (tgt := 24) X dJ7_copyOf_6403c_10 (by decide) ?_
    refine v_astore_n X (Nat.le_of_ble_eq_true rfl) rfl dJ7_copyOf_6403c_24 ?_
    refine v_aload_n X rfl dJ7_copyOf_6403c_25 ?_
    refine v_iconst' X kc_0 dJ7_copyOf_6403c_26 ?_
    refine v_aload_n X rfl dJ7_copyOf_6403c_27 ?_
    refine v_iconst' X kc_0 dJ7_copyOf_6403c_28 ?_
    refine v_aload_n X rfl dJ7_copyOf_6403c_29 ?_
    refine v_alen (t0 := 2) X ((hnew_off _ _ (by show d ≠ W.2.2.2.2; omega)).trans (rl_Row γ hv hd hy)) rfl dJ7_copyOf_6403c_30 ?_
    change V p l e _ s m args below meth c γ Q0 _ _ _ _ _ (.int (nI 10) :: _)
    refine v_iload_n X rfl dJ7_copyOf_6403c_31 ?_
    refine v_mmin X mm_J7_304 (Nat.le_of_ble_eq_true rfl) (Nat.le_of_ble_eq_true rfl) (Nat.le_of_ble_eq_true rfl) (Nat.le_of_ble_eq_true rfl) rfl dJ7_copyOf_6403c_32 ?_
    refine v_copyq (t0 := 2) X ac_J7_150 ((hnew_off _ _ (by show d ≠ W.2.2.2.2; omega)).trans (rl_Row γ hv hd hy)) (hnew_at _ _) rfl 0 0 10 rfl rfl (by decide) (by decide) (by decide) (by decide) (by decide) (fun z hz => by rw [Nat.zero_add]; exact LO_okn (q := 10) hlo (cx_cast X) hz) (Nat.le_of_ble_eq_true rfl) (Nat.le_of_ble_eq_true rfl) rfl dJ7_copyOf_6403c_35 ?_
    refine v_eqh (hset_hnew _ _ _) ?_
    refine v_aload_n X rfl dJ7_copyOf_6403c_38 ?_
    subst hQ0
    exact v_aret X rfl (Or.inr ⟨_, rfl⟩) (Nat.le_of_ble_eq_true rfl) (Nat.le_of_ble_eq_true rfl) dJ7_copyOf_6403c_39 ⟨rfl, rfl⟩
set_option maxHeartbeats 4000000 in
set_option maxRecDepth 100000 in
theorem c_J7_copyOf_1904c (l : Launch) (γ : Gm) (W : Wd) (j : Nat) (mc : Int32) (d : Nat) (row : Nat → Option Nat) (hj : j < 9) (hv : W.2.1 j = (mc, 10, d, 10, row)) (hd : γ.1 + 92 ≤ d) (hy : W.2.2.1 d = some (.inl j)) (hlo : LO γ W row 10) (hn : γ.1 + 92 ≤ W.2.2.2.2) (hdn : d < W.2.2.2.2) : Cr l γ yJ7_copyOf_1904c cJ7_copyOf_1904c 2 (some (.array (.object "java/lang/Object"))) 2 63 1 15 [.ref d, .int (nI 15)] (rdw γ W) (Det (some (.ref W.2.2.2.2)) (hnew (rdw γ W) (rE γ 2 15 (c_ten row)))) := by
  refine Cr_of [some (.ref d), some (.int (nI 15))] (by decide +kernel) (Nat.le_of_ble_eq_true rfl) rfl ?_
  intro p e s m args below meth c X
  refine v_q0 (fun Q0 hQ0 => ?_)
  refine v_aload_n X rfl dJ7_copyOf_1904c_0 ?_
  refine v_iload_n X rfl dJ7_copyOf_1904c_1 ?_
  refine v_aload_n X rfl dJ7_copyOf_1904c_2 ?_
  refine v_getC (t0 := 2) (E := "java/lang/Object") X gc_J7_86 (cx_Mi X) (rl_Row γ hv hd hy) rfl (by decide +kernel) (Nat.le_of_ble_eq_true rfl) (Nat.le_of_ble_eq_true rfl) rfl dJ7_copyOf_1904c_3 ?_
  refine v_callS X ms_J7_300 (c_J7_copyOf_6403c l γ W j mc d row hj hv hd hy hlo hn hdn) rfl ⟨Nat.le_of_ble_eq_true rfl, Nat.le_of_ble_eq_true rfl, Nat.le_of_ble_eq_true rfl, Nat.le_of_ble_eq_true rfl⟩ (Nat.le_of_ble_eq_true rfl) rfl dJ7_copyOf_1904c_6 rfl (det_r ?_)
  subst hQ0
  exact v_aret X rfl (Or.inr ⟨_, rfl⟩) (Nat.le_of_ble_eq_true rfl) (Nat.le_of_ble_eq_true rfl) dJ7_copyOf_1904c_9 ⟨rfl, rfl⟩
set_option maxHeartbeats 4000000 in
set_option maxRecDepth 100000 in
theorem c_Jx4a65c_grow_92f84_b (l : Launch) (γ : Gm) (W : Wd) (j : Nat) (mc : Int32) (d : Nat) (row : Nat → Option Nat) (hj : j < 9) (hv : W.2.1 j = (mc, 10, d, 10, row)) (hd : γ.1 + 92 ≤ d) (hy : W.2.2.1 d = some (.inl j)) (hlo : LO γ W row 10) (hn : γ.1 + 92 ≤ W.2.2.2.2) (hdn : d < W.2.2.2.2) : Cr l γ yJx4a65c_grow_92f84 cJx4a65c_grow_92f84 4 (some (.array (.object "java/lang/Object"))) 3 84 1 15 [.ref (γ.1 + lA j), .int (nI 11)] (rdw γ W) (Det (some (.ref W.2.2.2.2)) (rdw γ (wgrow W j 15 (c_ten row)))) := by
  refine Cr_of [some (.ref (γ.1 + lA j)), some (.int (nI 11)), none, none] (by decide +kernel) (Nat.le_of_ble_eq_true rfl) rfl ?_
  intro p e s m args below meth c X
  refine v_q0 (fun Q0 hQ0 => ?_)
  refine v_aload_n X rfl dJx4a65c_grow_92f84_0 ?_
  refine v_getf X fd_Jx4a65c_9 (rl_List γ hj hv) rfl dJx4a65c_grow_92f84_1 ?_
  refine v_alen (t0 := 2) X (rl_Row γ hv hd hy) rfl dJx4a65c_grow_92f84_4 ?_
  change V p l e _ s m args below meth c γ Q0 _ _ _ _ _ (.int (nI 10) :: _)
  refine v_istore_n X (Nat.le_of_ble_eq_true rfl) rfl dJx4a65c_grow_92f84_5 ?_
  refine v_iload_n X rfl dJx4a65c_grow_92f84_6 ?_
  refine v_if_gt_t (tgt := 20) X dJx4a65c_grow_92f84_7 (by decide) (by decide) ?_
  refine v_iload_n X rfl dJx4a65c_grow_92f84_20 ?_
  refine v_iload_n X rfl dJx4a65c_grow_92f84_21 ?_
  refine v_iload_n X rfl dJx4a65c_grow_92f84_22 ?_
  refine v_isub' X (v := nI 1) (by decide) dJx4a65c_grow_92f84_23 ?_
  refine v_iload_n X rfl dJx4a65c_grow_92f84_24 ?_
  refine v_iconst' X kc_1 dJx4a65c_grow_92f84_25 ?_
  refine v_ishr X dJx4a65c_grow_92f84_26 ?_
  rw [show (nI 10 >>> (nI 1 &&& 31)) = nI 5 from by decide]
  refine v_callS X ms_Jx4a65c_73 (c_J8_newLength_cabcc l γ _) rfl ⟨Nat.le_of_ble_eq_true rfl, Nat.le_of_ble_eq_true rfl, Nat.le_of_ble_eq_true rfl, Nat.le_of_ble_eq_true rfl⟩ (Nat.le_of_ble_eq_true rfl) rfl dJx4a65c_grow_92f84_27 rfl (det_i ?_)
  refine v_istore_n X (Nat.le_of_ble_eq_true rfl) rfl dJx4a65c_grow_92f84_30 ?_
  refine v_aload_n X rfl dJx4a65c_grow_92f84_31 ?_
  refine v_aload_n X rfl dJx4a65c_grow_92f84_32 ?_
  refine v_getf X fd_Jx4a65c_9 (rl_List γ hj hv) rfl dJx4a65c_grow_92f84_33 ?_
  refine v_iload_n X rfl dJx4a65c_grow_92f84_36 ?_
  refine v_callS X ms_Jx4a65c_66 (c_J7_copyOf_1904c l γ W j mc d row hj hv hd hy hlo hn hdn) rfl ⟨Nat.le_of_ble_eq_true rfl, Nat.le_of_ble_eq_true rfl, Nat.le_of_ble_eq_true rfl, Nat.le_of_ble_eq_true rfl⟩ (Nat.le_of_ble_eq_true rfl) rfl dJx4a65c_grow_92f84_37 rfl (det_r ?_)
  refine v_dup_x1 X rfl rfl dJx4a65c_grow_92f84_40 ?_
  refine v_putf X fp_Jx4a65c_9 (rl_new γ hj hv hn _) rfl rfl (Nat.le_of_ble_eq_true rfl) dJx4a65c_grow_92f84_41 ?_
  refine v_le (le_grow' γ hj hv hn _ _) ?_
  subst hQ0
  exact v_aret X rfl (Or.inr ⟨_, rfl⟩) (Nat.le_of_ble_eq_true rfl) (Nat.le_of_ble_eq_true rfl) dJx4a65c_grow_92f84_44 ⟨rfl, rfl⟩
set_option maxHeartbeats 4000000 in
set_option maxRecDepth 100000 in
theorem c_Jx4a65c_grow_d5877_b (l : Launch) (γ : Gm) (W : Wd) (j : Nat) (mc : Int32) (d : Nat) (row : Nat → Option Nat) (hj : j < 9) (hv : W.2.1 j = (mc, 10, d, 10, row)) (hd : γ.1 + 92 ≤ d) (hy : W.2.2.1 d = some (.inl j)) (hlo : LO γ W row 10) (hn : γ.1 + 92 ≤ W.2.2.2.2) (hdn : d < W.2.2.2.2) : Cr l γ yJx4a65c_grow_d5877 cJx4a65c_grow_d5877 1 (some (.array (.object "java/lang/Object"))) 4 107 1 15 [.ref (γ.1 + lA j)] (rdw γ W) (Det (some (.ref W.2.2.2.2)) (rdw γ (wgrow W j 15 (c_ten row)))) := by
  refine Cr_of [some (.ref (γ.1 + lA j))] (by decide +kernel) (Nat.le_of_ble_eq_true rfl) rfl ?_
  intro p e s m args below meth c X
  refine v_q0 (fun Q0 hQ0 => ?_)
  refine v_aload_n X rfl dJx4a65c_grow_d5877_0 ?_
  refine v_aload_n X rfl dJx4a65c_grow_d5877_1 ?_
  refine v_getf X fd_Jx4a65c_48 (rl_List γ hj hv) rfl dJx4a65c_grow_d5877_2 ?_
  refine v_iconst' X kc_1 dJx4a65c_grow_d5877_5 ?_
  refine v_iadd' X (v := nI 11) (by decide) dJx4a65c_grow_d5877_6 ?_
  refine v_callV (ci := 0) X mv_Jx4a65c_69 (c_Jx4a65c_grow_92f84_b l γ W j mc d row hj hv hd hy hlo hn hdn) rfl rfl (rl_List γ hj hv) rfl ⟨Nat.le_of_ble_eq_true rfl, Nat.le_of_ble_eq_true rfl, Nat.le_of_ble_eq_true rfl, Nat.le_of_ble_eq_true rfl⟩ (Nat.le_of_ble_eq_true rfl) rfl dJx4a65c_grow_d5877_7 rfl (det_r ?_)
  subst hQ0
  exact v_aret X rfl (Or.inr ⟨_, rfl⟩) (Nat.le_of_ble_eq_true rfl) (Nat.le_of_ble_eq_true rfl) dJx4a65c_grow_d5877_10 ⟨rfl, rfl⟩
set_option maxHeartbeats 4000000 in
set_option maxRecDepth 100000 in
theorem c_Jx4a65c_add_72be8_b (l : Launch) (γ : Gm) (W : Wd) (j : Nat) (mc : Int32) (d : Nat) (row : Nat → Option Nat) (hj : j < 9) (hv : W.2.1 j = (mc, 10, d, 10, row)) (hd : γ.1 + 92 ≤ d) (hy : W.2.2.1 d = some (.inl j)) (hlo : LO γ W row 10) (hn : γ.1 + 92 ≤ W.2.2.2.2) (hdn : d < W.2.2.2.2) (b : Nat) (o : Nat → Int32) (hb : γ.1 + 92 ≤ b) (ho : W.2.2.1 b = some (.inr o)) (hbn : b < W.2.2.2.2) : Cr l γ yJx4a65c_add_72be8 cJx4a65c_add_72be8 4 none 5 127 1 15 [.ref (γ.1 + lA j), .ref b, .ref d, .int (nI 10)] (rdw γ W) (Det none (rdw γ (wl (wgrow W j 15 (c_ten row)) j (mc, 11, W.2.2.2.2, 15, va_up (c_ten row) 10 (some b))))) := by
  have hv2 := wg_v hv 15 (c_ten row)
  have hy2 := wg_y W j 15 (c_ten row)
  have ho2 := wg_o (j := j) 15 (c_ten row) hbn ho
  refine Cr_of [some (.ref (γ.1 + lA j)), some (.ref b), some (.ref d), some (.int (nI 10))] (by decide +kernel) (Nat.le_of_ble_eq_true rfl) rfl ?_
  intro p e s m args below meth c X
  refine v_q0 (fun Q0 hQ0 => ?_)
  refine v_iload_n X rfl dJx4a65c_add_72be8_0 ?_
  refine v_aload_n X rfl dJx4a65c_add_72be8_1 ?_
  refine v_alen (t0 := 2) X (rl_Row γ hv hd hy) rfl dJx4a65c_add_72be8_2 ?_
  change V p l e _ s m args below meth c γ Q0 _ _ _ _ _ (.int (nI 10) :: _)
  refine v_icmp_ne_f (tgt := 11) X dJx4a65c_add_72be8_3 (by decide) (by decide) ?_
  refine v_aload_n X rfl dJx4a65c_add_72be8_6 ?_
  refine v_callV (ci := 0) X mv_Jx4a65c_129 (c_Jx4a65c_grow_d5877_b l γ W j mc d row hj hv hd hy hlo hn hdn) rfl rfl (rl_List γ hj hv) rfl ⟨Nat.le_of_ble_eq_true rfl, Nat.le_of_ble_eq_true rfl, Nat.le_of_ble_eq_true rfl, Nat.le_of_ble_eq_true rfl⟩ (Nat.le_of_ble_eq_true rfl) rfl dJx4a65c_add_72be8_7 rfl (det_r ?_)
  refine v_astore_n X (Nat.le_of_ble_eq_true rfl) rfl dJx4a65c_add_72be8_10 ?_
  refine v_aload_n X rfl dJx4a65c_add_72be8_11 ?_
  refine v_iload_n X rfl dJx4a65c_add_72be8_12 ?_
  refine v_aload_n X rfl dJx4a65c_add_72be8_13 ?_
  refine v_aast (t0 := 2) X (rl_Row γ hv2 hn hy2) rfl (rd_Ord γ (wgrow W j 15 (c_ten row)) hb ho2) rfl (Or.inr (cx_cast X)) 10 rfl (by omega) (by omega) dJx4a65c_add_72be8_14 ?_
  refine v_eqh (up_lrow' γ hj hv2 hn hy2 _) ?_
  refine v_aload_n X rfl dJx4a65c_add_72be8_15 ?_
  refine v_iload_n X rfl dJx4a65c_add_72be8_16 ?_
  refine v_iconst' X kc_1 dJx4a65c_add_72be8_17 ?_
  refine v_iadd' X (v := nI 11) (by decide) dJx4a65c_add_72be8_18 ?_
  refine v_putf X fp_Jx4a65c_48 (rl_List γ hj (wl_at _ _ _)) rfl rfl (Nat.le_of_ble_eq_true rfl) dJx4a65c_add_72be8_19 ?_
  refine v_eqh (up_l' γ hj (wl_at _ _ _) _ _) ?_
  rw [wl_wl]
  subst hQ0
  exact v_vret X rfl (Nat.le_of_ble_eq_true rfl) (Nat.le_of_ble_eq_true rfl) dJx4a65c_add_72be8_22 ⟨rfl, rfl⟩
set_option maxHeartbeats 4000000 in
set_option maxRecDepth 100000 in
theorem c_Jx4a65c_add_9ea2d_b (l : Launch) (γ : Gm) (W : Wd) (j : Nat) (mc : Int32) (d : Nat) (row : Nat → Option Nat) (hj : j < 9) (hv : W.2.1 j = (mc, 10, d, 10, row)) (hd : γ.1 + 92 ≤ d) (hy : W.2.2.1 d = some (.inl j)) (hlo : LO γ W row 10) (hn : γ.1 + 92 ≤ W.2.2.2.2) (hdn : d < W.2.2.2.2) (b : Nat) (o : Nat → Int32) (hb : γ.1 + 92 ≤ b) (ho : W.2.2.1 b = some (.inr o)) (hbn : b < W.2.2.2.2) : Cr l γ yJx4a65c_add_9ea2d cJx4a65c_add_9ea2d 2 (some .boolean) 6 150 1 15 [.ref (γ.1 + lA j), .ref b] (rdw γ W) (Det (some (.int (nI 1))) (rdw γ (wl (wgrow (wl W j ((mc + nI 1), 10, d, 10, row)) j 15 (c_ten row)) j ((mc + nI 1), 11, W.2.2.2.2, 15, va_up (c_ten row) 10 (some b))))) := by
  refine Cr_of [some (.ref (γ.1 + lA j)), some (.ref b)] (by decide +kernel) (Nat.le_of_ble_eq_true rfl) rfl ?_
  intro p e s m args below meth c X
  refine v_q0 (fun Q0 hQ0 => ?_)
  refine v_aload_n X rfl dJx4a65c_add_9ea2d_0 ?_
  refine v_dup X rfl dJx4a65c_add_9ea2d_1 ?_
  refine v_getf X fd_Jx4a65c_63 (rl_List γ hj hv) rfl dJx4a65c_add_9ea2d_2 ?_
  refine v_iconst' X kc_1 dJx4a65c_add_9ea2d_5 ?_
  refine v_iadd X dJx4a65c_add_9ea2d_6 ?_
  refine v_putf X fp_Jx4a65c_63 (rl_List γ hj hv) rfl rfl (Nat.le_of_ble_eq_true rfl) dJx4a65c_add_9ea2d_7 ?_
  refine v_eqh (up_l' γ hj hv _ _) ?_
  refine v_aload_n X rfl dJx4a65c_add_9ea2d_10 ?_
  refine v_aload_n X rfl dJx4a65c_add_9ea2d_11 ?_
  refine v_aload_n X rfl dJx4a65c_add_9ea2d_12 ?_
  refine v_getf X fd_Jx4a65c_9 (rl_List γ hj (wl_at _ _ _)) rfl dJx4a65c_add_9ea2d_13 ?_
  refine v_aload_n X rfl dJx4a65c_add_9ea2d_16 ?_
  refine v_getf X fd_Jx4a65c_48 (rl_List γ hj (wl_at _ _ _)) rfl dJx4a65c_add_9ea2d_17 ?_
  refine v_callV (ci := 0) X mv_Jx4a65c_131 (c_Jx4a65c_add_72be8_b l γ (wl W j ((mc + nI 1), 10, d, 10, row)) j (mc + nI 1) d row hj (wl_at _ _ _) hd hy hlo hn hdn b o hb ho hbn) rfl rfl (rl_List γ hj (wl_at _ _ _)) rfl ⟨Nat.le_of_ble_eq_true rfl, Nat.le_of_ble_eq_true rfl, Nat.le_of_ble_eq_true rfl, Nat.le_of_ble_eq_true rfl⟩ (Nat.le_of_ble_eq_true rfl) rfl dJx4a65c_add_9ea2d_20 rfl (det_v ?_)
  refine v_iconst' X kc_1 dJx4a65c_add_9ea2d_23 ?_
  subst hQ0
  exact v_zret X rfl rfl (Nat.le_of_ble_eq_true rfl) (Nat.le_of_ble_eq_true rfl) dJx4a65c_add_9ea2d_24 ⟨rfl, rfl⟩
