set_option maxHeartbeats 4000000 in
set_option maxRecDepth 100000 in
theorem c_J3_checkIndex_8e157 (l : Launch) (γ : Gm) (h : HP) (i n : Nat) (hi : i < n) (hn : n < 2147483648) : Cr l γ yJ3_checkIndex_8e157 cJ3_checkIndex_8e157 3 (some .int) 0 0 0 0 [.int (nI i), .int (nI n), .null] (h) (Det (some (.int (nI i))) h) := by
  refine Cr_of [some (.int (nI i)), some (.int (nI n)), some (.null)] (by decide +kernel) (Nat.le_of_ble_eq_true rfl) rfl ?_
  intro p e s m args below meth c X
  refine v_q0 (fun Q0 hQ0 => ?_)
  refine v_iload_n X rfl dJ3_checkIndex_8e157_0 ?_
  refine v_if_lt_n (tgt := 9) X dJ3_checkIndex_8e157_1 (by decide) (by omega) ?_
  refine v_iload_n X rfl dJ3_checkIndex_8e157_4 ?_
  refine v_iload_n X rfl dJ3_checkIndex_8e157_5 ?_
  refine v_icmp_lt_n (tgt := 16) X dJ3_checkIndex_8e157_6 (by decide) (by omega) (by omega) (fun q1 => ?_) (fun q1 => ?_)
  · refine v_iload_n X rfl dJ3_checkIndex_8e157_16 ?_
    subst hQ0
    exact v_iret X rfl (Nat.le_of_ble_eq_true rfl) (Nat.le_of_ble_eq_true rfl) dJ3_checkIndex_8e157_17 ⟨rfl, rfl⟩
  · exact absurd q1 (by omega)
set_option maxHeartbeats 4000000 in
set_option maxRecDepth 100000 in
theorem c_J15_checkIndex_7cf53 (l : Launch) (γ : Gm) (h : HP) (i n : Nat) (hi : i < n) (hn : n < 2147483648) : Cr l γ yJ15_checkIndex_7cf53 cJ15_checkIndex_7cf53 2 (some .int) 1 22 0 0 [.int (nI i), .int (nI n)] (h) (Det (some (.int (nI i))) h) := by
  refine Cr_of [some (.int (nI i)), some (.int (nI n))] (by decide +kernel) (Nat.le_of_ble_eq_true rfl) rfl ?_
  intro p e s m args below meth c X
  refine v_q0 (fun Q0 hQ0 => ?_)
  refine v_iload_n X rfl dJ15_checkIndex_7cf53_0 ?_
  refine v_iload_n X rfl dJ15_checkIndex_7cf53_1 ?_
  refine v_aconst_null X dJ15_checkIndex_7cf53_2 ?_
  refine v_callS X ms_J15_105 (c_J3_checkIndex_8e157 l γ _ i n hi hn) rfl ⟨Nat.le_of_ble_eq_true rfl, Nat.le_of_ble_eq_true rfl, Nat.le_of_ble_eq_true rfl, Nat.le_of_ble_eq_true rfl⟩ (Nat.le_of_ble_eq_true rfl) rfl dJ15_checkIndex_7cf53_3 rfl (det_i ?_)
  subst hQ0
  exact v_iret X rfl (Nat.le_of_ble_eq_true rfl) (Nat.le_of_ble_eq_true rfl) dJ15_checkIndex_7cf53_6 ⟨rfl, rfl⟩
set_option maxHeartbeats 4000000 in
set_option maxRecDepth 100000 in
theorem c_Jx4a65c_size_8abf5 (l : Launch) (γ : Gm) (W : Wd) (j : Nat) (mc : Int32) (q d cp : Nat) (row : Nat → Option Nat) (hj : j < 9) (hv : W.2.1 j = (mc, q, d, cp, row)) (hc : cp ≤ 15) (hq : q ≤ cp) : Cr l γ yJx4a65c_size_8abf5 cJx4a65c_size_8abf5 1 (some .int) 0 0 0 0 [.ref (γ.1 + lA j)] (rdw γ W) (Det (some (.int (nI q))) (rdw γ W)) := by
  refine Cr_of [some (.ref (γ.1 + lA j))] (by decide +kernel) (Nat.le_of_ble_eq_true rfl) rfl ?_
  intro p e s m args below meth c X
  refine v_q0 (fun Q0 hQ0 => ?_)
  refine v_aload_n X rfl dJx4a65c_size_8abf5_0 ?_
  refine v_getf X fd_Jx4a65c_48 (rl_List γ hj hv) rfl dJx4a65c_size_8abf5_1 ?_
  subst hQ0
  exact v_iret X rfl (Nat.le_of_ble_eq_true rfl) (Nat.le_of_ble_eq_true rfl) dJx4a65c_size_8abf5_4 ⟨rfl, rfl⟩
set_option maxHeartbeats 4000000 in
set_option maxRecDepth 100000 in
theorem c_Jx4a65c_elementData_915e3 (l : Launch) (γ : Gm) (W : Wd) (j : Nat) (mc : Int32) (q d cp : Nat) (row : Nat → Option Nat) (hj : j < 9) (hv : W.2.1 j = (mc, q, d, cp, row)) (hc : cp ≤ 15) (hq : q ≤ cp) (hd : γ.1 + 92 ≤ d) (hy : W.2.2.1 d = some (.inl j)) (i a : Nat) (hi : i < q) (ha : row i = some a) : Cr l γ yJx4a65c_elementData_915e3 cJx4a65c_elementData_915e3 2 (some (.object "java/lang/Object")) 0 0 0 0 [.ref (γ.1 + lA j), .int (nI i)] (rdw γ W) (Det (some (.ref a)) (rdw γ W)) := by
  refine Cr_of [some (.ref (γ.1 + lA j)), some (.int (nI i))] (by decide +kernel) (Nat.le_of_ble_eq_true rfl) rfl ?_
  intro p e s m args below meth c X
  refine v_q0 (fun Q0 hQ0 => ?_)
  refine v_aload_n X rfl dJx4a65c_elementData_915e3_0 ?_
  refine v_getf X fd_Jx4a65c_9 (rl_List γ hj hv) rfl dJx4a65c_elementData_915e3_1 ?_
  refine v_iload_n X rfl dJx4a65c_elementData_915e3_4 ?_
  refine v_aald (t0 := 2) X (rl_Row γ hv hd hy) rfl i rfl (by omega) (by omega) ha dJx4a65c_elementData_915e3_5 ?_
  subst hQ0
  exact v_aret X rfl (Or.inl ⟨_, rfl⟩) (Nat.le_of_ble_eq_true rfl) (Nat.le_of_ble_eq_true rfl) dJx4a65c_elementData_915e3_6 ⟨rfl, rfl⟩
set_option maxHeartbeats 4000000 in
set_option maxRecDepth 100000 in
theorem c_Jx4a65c_get_915e3 (l : Launch) (γ : Gm) (W : Wd) (j : Nat) (mc : Int32) (q d cp : Nat) (row : Nat → Option Nat) (hj : j < 9) (hv : W.2.1 j = (mc, q, d, cp, row)) (hc : cp ≤ 15) (hq : q ≤ cp) (hd : γ.1 + 92 ≤ d) (hy : W.2.2.1 d = some (.inl j)) (i a : Nat) (hi : i < q) (ha : row i = some a) : Cr l γ yJx4a65c_get_915e3 cJx4a65c_get_915e3 2 (some (.object "java/lang/Object")) 2 43 0 0 [.ref (γ.1 + lA j), .int (nI i)] (rdw γ W) (Det (some (.ref a)) (rdw γ W)) := by
  refine Cr_of [some (.ref (γ.1 + lA j)), some (.int (nI i))] (by decide +kernel) (Nat.le_of_ble_eq_true rfl) rfl ?_
  intro p e s m args below meth c X
  refine v_q0 (fun Q0 hQ0 => ?_)
  refine v_iload_n X rfl dJx4a65c_get_915e3_0 ?_
  refine v_aload_n X rfl dJx4a65c_get_915e3_1 ?_
  refine v_getf X fd_Jx4a65c_48 (rl_List γ hj hv) rfl dJx4a65c_get_915e3_2 ?_
  refine v_callS X ms_Jx4a65c_118 (c_J15_checkIndex_7cf53 l γ _ i q hi (by omega)) rfl ⟨Nat.le_of_ble_eq_true rfl, Nat.le_of_ble_eq_true rfl, Nat.le_of_ble_eq_true rfl, Nat.le_of_ble_eq_true rfl⟩ (Nat.le_of_ble_eq_true rfl) rfl dJx4a65c_get_915e3_5 rfl (det_i ?_)
  refine v_pop X rfl dJx4a65c_get_915e3_8 ?_
  refine v_aload_n X rfl dJx4a65c_get_915e3_9 ?_
  refine v_iload_n X rfl dJx4a65c_get_915e3_10 ?_
  refine v_callV (ci := 0) X mv_Jx4a65c_123 (c_Jx4a65c_elementData_915e3 l γ W j mc q d cp row hj hv hc hq hd hy i a hi ha) rfl rfl (rl_List γ hj hv) rfl ⟨Nat.le_of_ble_eq_true rfl, Nat.le_of_ble_eq_true rfl, Nat.le_of_ble_eq_true rfl, Nat.le_of_ble_eq_true rfl⟩ (Nat.le_of_ble_eq_true rfl) rfl dJx4a65c_get_915e3_11 rfl (det_r ?_)
  subst hQ0
  exact v_aret X rfl (Or.inl ⟨_, rfl⟩) (Nat.le_of_ble_eq_true rfl) (Nat.le_of_ble_eq_true rfl) dJx4a65c_get_915e3_14 ⟨rfl, rfl⟩
set_option maxHeartbeats 4000000 in
set_option maxRecDepth 100000 in
theorem c_Jx4a65c_set_bcc79 (l : Launch) (γ : Gm) (W : Wd) (j : Nat) (mc : Int32) (q d cp : Nat) (row : Nat → Option Nat) (hj : j < 9) (hv : W.2.1 j = (mc, q, d, cp, row)) (hc : cp ≤ 15) (hq : q ≤ cp) (hd : γ.1 + 92 ≤ d) (hy : W.2.2.1 d = some (.inl j)) (i a : Nat) (hi : i < q) (ha : row i = some a) (b : Nat) (o : Nat → Int32) (hb : γ.1 + 92 ≤ b) (ho : W.2.2.1 b = some (.inr o)) : Cr l γ yJx4a65c_set_bcc79 cJx4a65c_set_bcc79 4 (some (.object "java/lang/Object")) 2 43 0 0 [.ref (γ.1 + lA j), .int (nI i), .ref b] (rdw γ W) (Det (some (.ref a)) (rdw γ (wl W j (mc, q, d, cp, va_up row i (some b))))) := by
  refine Cr_of [some (.ref (γ.1 + lA j)), some (.int (nI i)), some (.ref b), none] (by decide +kernel) (Nat.le_of_ble_eq_true rfl) rfl ?_
  intro p e s m args below meth c X
  refine v_q0 (fun Q0 hQ0 => ?_)
  refine v_iload_n X rfl dJx4a65c_set_bcc79_0 ?_
  refine v_aload_n X rfl dJx4a65c_set_bcc79_1 ?_
  refine v_getf X fd_Jx4a65c_48 (rl_List γ hj hv) rfl dJx4a65c_set_bcc79_2 ?_
  refine v_callS X ms_Jx4a65c_118 (c_J15_checkIndex_7cf53 l γ _ i q hi (by omega)) rfl ⟨Nat.le_of_ble_eq_true rfl, Nat.le_of_ble_eq_true rfl, Nat.le_of_ble_eq_true rfl, Nat.le_of_ble_eq_true rfl⟩ (Nat.le_of_ble_eq_true rfl) rfl dJx4a65c_set_bcc79_5 rfl (det_i ?_)
  refine v_pop X rfl dJx4a65c_set_bcc79_8 ?_
  refine v_aload_n X rfl dJx4a65c_set_bcc79_9 ?_
  refine v_iload_n X rfl dJx4a65c_set_bcc79_10 ?_
  refine v_callV (ci := 0) X mv_Jx4a65c_123 (c_Jx4a65c_elementData_915e3 l γ W j mc q d cp row hj hv hc hq hd hy i a hi ha) rfl rfl (rl_List γ hj hv) rfl ⟨Nat.le_of_ble_eq_true rfl, Nat.le_of_ble_eq_true rfl, Nat.le_of_ble_eq_true rfl, Nat.le_of_ble_eq_true rfl⟩ (Nat.le_of_ble_eq_true rfl) rfl dJx4a65c_set_bcc79_11 rfl (det_r ?_)
  refine v_astore_n X (Nat.le_of_ble_eq_true rfl) rfl dJx4a65c_set_bcc79_14 ?_
  refine v_aload_n X rfl dJx4a65c_set_bcc79_15 ?_
  refine v_getf X fd_Jx4a65c_9 (rl_List γ hj hv) rfl dJx4a65c_set_bcc79_16 ?_
  refine v_iload_n X rfl dJx4a65c_set_bcc79_19 ?_
  refine v_aload_n X rfl dJx4a65c_set_bcc79_20 ?_
  refine v_aast (t0 := 2) X (rl_Row γ hv hd hy) rfl (rd_Ord γ W hb ho) rfl (Or.inr (cx_cast X)) i rfl (by omega) (by omega) dJx4a65c_set_bcc79_21 ?_
  refine v_eqh (up_lrow' γ hj hv hd hy _) ?_
  refine v_aload_n X rfl dJx4a65c_set_bcc79_22 ?_
  subst hQ0
  exact v_aret X rfl (Or.inl ⟨_, rfl⟩) (Nat.le_of_ble_eq_true rfl) (Nat.le_of_ble_eq_true rfl) dJx4a65c_set_bcc79_23 ⟨rfl, rfl⟩
set_option maxHeartbeats 4000000 in
set_option maxRecDepth 100000 in
theorem c_Jx4a65c_grow_92f84 (l : Launch) (γ : Gm) (W : Wd) (j : Nat) (mc : Int32) (row : Nat → Option Nat) (hj : j < 9) (hv : W.2.1 j = (mc, 0, γ.2.2.2 2, 0, row)) (hn : γ.1 + 92 ≤ W.2.2.2.2) : Cr l γ yJx4a65c_grow_92f84 cJx4a65c_grow_92f84 4 (some (.array (.object "java/lang/Object"))) 3 84 1 10 [.ref (γ.1 + lA j), .int (nI 1)] (rdw γ W) (Det (some (.ref W.2.2.2.2)) (rdw γ (wgrow W j 10 (fun _ => none)))) := by
  refine Cr_of [some (.ref (γ.1 + lA j)), some (.int (nI 1)), none, none] (by decide +kernel) (Nat.le_of_ble_eq_true rfl) rfl ?_
  intro p e s m args below meth c X
  refine v_q0 (fun Q0 hQ0 => ?_)
  refine v_aload_n X rfl dJx4a65c_grow_92f84_0 ?_
  refine v_getf X fd_Jx4a65c_9 (rl_List γ hj hv) rfl dJx4a65c_grow_92f84_1 ?_
  refine v_tlen X (cx_empT X) dJx4a65c_grow_92f84_4 ?_
  refine v_istore_n X (Nat.le_of_ble_eq_true rfl) rfl dJx4a65c_grow_92f84_5 ?_
  refine v_iload_n X rfl dJx4a65c_grow_92f84_6 ?_
  refine v_if_gt_f (tgt := 20) X dJx4a65c_grow_92f84_7 (by decide) (by decide) ?_
  refine v_aload_n X rfl dJx4a65c_grow_92f84_10 ?_
  refine v_getf X fd_Jx4a65c_9 (rl_List γ hj hv) rfl dJx4a65c_grow_92f84_11 ?_
  refine v_gets X (cx_empZ X) gs_Jx4a65c_39 dJx4a65c_grow_92f84_14 ?_
  refine v_acmp_eq (tgt := 45) X dJx4a65c_grow_92f84_17 (by decide) (fun c_1 => ?_) (fun c_1 => ?_)
  · refine v_aload_n X rfl dJx4a65c_grow_92f84_45 ?_
    refine v_bipush' X kb_10 dJx4a65c_grow_92f84_46 ?_
    refine v_iload_n X rfl dJx4a65c_grow_92f84_48 ?_
    refine v_mmax X mm_Jx4a65c_79 (Nat.le_of_ble_eq_true rfl) (Nat.le_of_ble_eq_true rfl) (Nat.le_of_ble_eq_true rfl) (Nat.le_of_ble_eq_true rfl) rfl dJx4a65c_grow_92f84_49 ?_
    refine v_anew (t0 := 2) X 10 (by decide) (by decide) cl_Jx4a65c_7 (cx_AO X) rfl (Nat.le_of_ble_eq_true rfl) (Nat.le_of_ble_eq_true rfl) dJx4a65c_grow_92f84_52 ?_
    refine v_dup_x1 X rfl rfl dJx4a65c_grow_92f84_55 ?_
    refine v_putf X fp_Jx4a65c_9 (rl_new γ hj hv hn _) rfl rfl (Nat.le_of_ble_eq_true rfl) dJx4a65c_grow_92f84_56 ?_
    refine v_le (le_grow' γ hj hv hn _ _) ?_
    subst hQ0
    exact v_aret X rfl (Or.inr ⟨_, rfl⟩) (Nat.le_of_ble_eq_true rfl) (Nat.le_of_ble_eq_true rfl) dJx4a65c_grow_92f84_59 ⟨rfl, rfl⟩
  · exact absurd rfl c_1
set_option maxHeartbeats 4000000 in
set_option maxRecDepth 100000 in
theorem c_Jx4a65c_grow_d5877 (l : Launch) (γ : Gm) (W : Wd) (j : Nat) (mc : Int32) (row : Nat → Option Nat) (hj : j < 9) (hv : W.2.1 j = (mc, 0, γ.2.2.2 2, 0, row)) (hn : γ.1 + 92 ≤ W.2.2.2.2) : Cr l γ yJx4a65c_grow_d5877 cJx4a65c_grow_d5877 1 (some (.array (.object "java/lang/Object"))) 4 107 1 10 [.ref (γ.1 + lA j)] (rdw γ W) (Det (some (.ref W.2.2.2.2)) (rdw γ (wgrow W j 10 (fun _ => none)))) := by
  refine Cr_of [some (.ref (γ.1 + lA j))] (by decide +kernel) (Nat.le_of_ble_eq_true rfl) rfl ?_
  intro p e s m args below meth c X
  refine v_q0 (fun Q0 hQ0 => ?_)
  refine v_aload_n X rfl dJx4a65c_grow_d5877_0 ?_
  refine v_aload_n X rfl dJx4a65c_grow_d5877_1 ?_
  refine v_getf X fd_Jx4a65c_48 (rl_List γ hj hv) rfl dJx4a65c_grow_d5877_2 ?_
  refine v_iconst' X kc_1 dJx4a65c_grow_d5877_5 ?_
  refine v_iadd' X (nI_add _ _) dJx4a65c_grow_d5877_6 ?_
  refine v_callV (ci := 0) X mv_Jx4a65c_69 (c_Jx4a65c_grow_92f84 l γ W j mc row hj hv hn) rfl rfl (rl_List γ hj hv) rfl ⟨Nat.le_of_ble_eq_true rfl, Nat.le_of_ble_eq_true rfl, Nat.le_of_ble_eq_true rfl, Nat.le_of_ble_eq_true rfl⟩ (Nat.le_of_ble_eq_true rfl) rfl dJx4a65c_grow_d5877_7 rfl (det_r ?_)
  subst hQ0
  exact v_aret X rfl (Or.inr ⟨_, rfl⟩) (Nat.le_of_ble_eq_true rfl) (Nat.le_of_ble_eq_true rfl) dJx4a65c_grow_d5877_10 ⟨rfl, rfl⟩
set_option maxHeartbeats 4000000 in
set_option maxRecDepth 100000 in
theorem c_Jx4a65c_add_72be8_a (l : Launch) (γ : Gm) (W : Wd) (j : Nat) (mc : Int32) (q d cp : Nat) (row : Nat → Option Nat) (hj : j < 9) (hv : W.2.1 j = (mc, q, d, cp, row)) (hc : cp ≤ 15) (hq : q ≤ cp) (hd : γ.1 + 92 ≤ d) (hy : W.2.2.1 d = some (.inl j)) (hqc : q < cp) (b : Nat) (o : Nat → Int32) (hb : γ.1 + 92 ≤ b) (ho : W.2.2.1 b = some (.inr o)) : Cr l γ yJx4a65c_add_72be8 cJx4a65c_add_72be8 4 none 5 127 0 0 [.ref (γ.1 + lA j), .ref b, .ref d, .int (nI q)] (rdw γ W) (Det none (rdw γ (wl W j (mc, q + 1, d, cp, va_up row q (some b))))) := by
  refine Cr_of [some (.ref (γ.1 + lA j)), some (.ref b), some (.ref d), some (.int (nI q))] (by decide +kernel) (Nat.le_of_ble_eq_true rfl) rfl ?_
  intro p e s m args below meth c X
  refine v_q0 (fun Q0 hQ0 => ?_)
  refine v_iload_n X rfl dJx4a65c_add_72be8_0 ?_
  refine v_aload_n X rfl dJx4a65c_add_72be8_1 ?_
  refine v_alen (t0 := 2) X (rl_Row γ hv hd hy) rfl dJx4a65c_add_72be8_2 ?_
  refine v_icmp_ne_n (tgt := 11) X dJx4a65c_add_72be8_3 (by decide) (by omega) (by omega) (fun q1 => ?_) (fun q1 => ?_)
  · refine v_aload_n X rfl dJx4a65c_add_72be8_11 ?_
    refine v_iload_n X rfl dJx4a65c_add_72be8_12 ?_
    refine v_aload_n X rfl dJx4a65c_add_72be8_13 ?_
    refine v_aast (t0 := 2) X (rl_Row γ hv hd hy) rfl (rd_Ord γ W hb ho) rfl (Or.inr (cx_cast X)) q rfl (by omega) (by omega) dJx4a65c_add_72be8_14 ?_
    refine v_eqh (up_lrow' γ hj hv hd hy _) ?_
    refine v_aload_n X rfl dJx4a65c_add_72be8_15 ?_
    refine v_iload_n X rfl dJx4a65c_add_72be8_16 ?_
    refine v_iconst' X kc_1 dJx4a65c_add_72be8_17 ?_
    refine v_iadd' X (nI_add _ _) dJx4a65c_add_72be8_18 ?_
    refine v_putf X fp_Jx4a65c_48 (rl_List γ hj (wl_at _ _ _)) rfl rfl (Nat.le_of_ble_eq_true rfl) dJx4a65c_add_72be8_19 ?_
    refine v_eqh (up_l' γ hj (wl_at _ _ _) _ _) ?_
    rw [wl_wl]
    subst hQ0
    exact v_vret X rfl (Nat.le_of_ble_eq_true rfl) (Nat.le_of_ble_eq_true rfl) dJx4a65c_add_72be8_22 ⟨rfl, rfl⟩
  · exact absurd q1 (by omega)
set_option maxHeartbeats 4000000 in
set_option maxRecDepth 100000 in
theorem c_Jx4a65c_add_72be8_g (l : Launch) (γ : Gm) (W : Wd) (j : Nat) (mc : Int32) (row : Nat → Option Nat) (hj : j < 9) (hv : W.2.1 j = (mc, 0, γ.2.2.2 2, 0, row)) (hn : γ.1 + 92 ≤ W.2.2.2.2) (b : Nat) (o : Nat → Int32) (hb : γ.1 + 92 ≤ b) (ho : W.2.2.1 b = some (.inr o)) (hbn : b < W.2.2.2.2) : Cr l γ yJx4a65c_add_72be8 cJx4a65c_add_72be8 4 none 5 127 1 10 [.ref (γ.1 + lA j), .ref b, .ref (γ.2.2.2 2), .int (nI 0)] (rdw γ W) (Det none (rdw γ (wl (wgrow W j 10 (fun _ => none)) j (mc, 1, W.2.2.2.2, 10, va_up (fun _ => none) 0 (some b))))) := by
  have hv2 := wg_v hv 10 (fun _ => none)
  have hy2 := wg_y W j 10 (fun _ => none)
  have ho2 := wg_o (j := j) 10 (fun _ => none) hbn ho
  refine Cr_of [some (.ref (γ.1 + lA j)), some (.ref b), some (.ref (γ.2.2.2 2)), some (.int (nI 0))] (by decide +kernel) (Nat.le_of_ble_eq_true rfl) rfl ?_
  intro p e s m args below meth c X
  refine v_q0 (fun Q0 hQ0 => ?_)
  refine v_iload_n X rfl dJx4a65c_add_72be8_0 ?_
  refine v_aload_n X rfl dJx4a65c_add_72be8_1 ?_
  refine v_tlen X (cx_empT X) dJx4a65c_add_72be8_2 ?_
  refine v_icmp_ne_f (tgt := 11) X dJx4a65c_add_72be8_3 (by decide) (by decide) ?_
  refine v_aload_n X rfl dJx4a65c_add_72be8_6 ?_
  refine v_callV (ci := 0) X mv_Jx4a65c_129 (c_Jx4a65c_grow_d5877 l γ W j mc row hj hv hn) rfl rfl (rl_List γ hj hv) rfl ⟨Nat.le_of_ble_eq_true rfl, Nat.le_of_ble_eq_true rfl, Nat.le_of_ble_eq_true rfl, Nat.le_of_ble_eq_true rfl⟩ (Nat.le_of_ble_eq_true rfl) rfl dJx4a65c_add_72be8_7 rfl (det_r ?_)
  refine v_astore_n X (Nat.le_of_ble_eq_true rfl) rfl dJx4a65c_add_72be8_10 ?_
  refine v_aload_n X rfl dJx4a65c_add_72be8_11 ?_
  refine v_iload_n X rfl dJx4a65c_add_72be8_12 ?_
  refine v_aload_n X rfl dJx4a65c_add_72be8_13 ?_
  refine v_aast (t0 := 2) X (rl_Row γ hv2 hn hy2) rfl (rd_Ord γ (wgrow W j 10 (fun _ => none)) hb ho2) rfl (Or.inr (cx_cast X)) 0 rfl (by omega) (by omega) dJx4a65c_add_72be8_14 ?_
  refine v_eqh (up_lrow' γ hj hv2 hn hy2 _) ?_
  refine v_aload_n X rfl dJx4a65c_add_72be8_15 ?_
  refine v_iload_n X rfl dJx4a65c_add_72be8_16 ?_
  refine v_iconst' X kc_1 dJx4a65c_add_72be8_17 ?_
  refine v_iadd' X (nI_add _ _) dJx4a65c_add_72be8_18 ?_
  refine v_putf X fp_Jx4a65c_48 (rl_List γ hj (wl_at _ _ _)) rfl rfl (Nat.le_of_ble_eq_true rfl) dJx4a65c_add_72be8_19 ?_
  refine v_eqh (up_l' γ hj (wl_at _ _ _) _ _) ?_
  rw [wl_wl]
  subst hQ0
  exact v_vret X rfl (Nat.le_of_ble_eq_true rfl) (Nat.le_of_ble_eq_true rfl) dJx4a65c_add_72be8_22 ⟨rfl, rfl⟩
set_option maxHeartbeats 4000000 in
set_option maxRecDepth 100000 in
theorem c_Jx4a65c_add_9ea2d_a (l : Launch) (γ : Gm) (W : Wd) (j : Nat) (mc : Int32) (q d cp : Nat) (row : Nat → Option Nat) (hj : j < 9) (hv : W.2.1 j = (mc, q, d, cp, row)) (hc : cp ≤ 15) (hq : q ≤ cp) (hd : γ.1 + 92 ≤ d) (hy : W.2.2.1 d = some (.inl j)) (hqc : q < cp) (b : Nat) (o : Nat → Int32) (hb : γ.1 + 92 ≤ b) (ho : W.2.2.1 b = some (.inr o)) : Cr l γ yJx4a65c_add_9ea2d cJx4a65c_add_9ea2d 2 (some .boolean) 6 150 0 0 [.ref (γ.1 + lA j), .ref b] (rdw γ W) (Det (some (.int (nI 1))) (rdw γ (wl W j ((mc + nI 1), q + 1, d, cp, va_up row q (some b))))) := by
  refine Cr_of [some (.ref (γ.1 + lA j)), some (.ref b)] (by decide +kernel) (Nat.le_of_ble_eq_true rfl) rfl ?_
  intro p e s m args below meth c X
  refine v_q0 (fun Q0 hQ0 => ?_)
  refine v_aload_n X rfl dJx4a65c_add_9ea2d_0 ?_
  refine v_dup X rfl dJx4a65c_add_9ea2d_1 ?_
  refine v_getf X fd_Jx4a65c_63 (rl_List γ hj hv) rfl dJx4a65c_add_9ea2d_2 ?_
  refine v_iconst' X kc_1 dJx4a65c_add_9ea2d_5 ?_
  refine v_iadd X dJx4a65c_add_9ea2d_6 ?_
  refine v_putf X fp_Jx4a65c_63 (rl_List γ hj hv) rfl rfl (Nat.le_of_ble_eq_true rfl) dJx4a65c_add_9ea2d_7 ?_
  refine v_eqh (up_l' γ hj hv _ _) ?_
  refine v_aload_n X rfl dJx4a65c_add_9ea2d_10 ?_
  refine v_aload_n X rfl dJx4a65c_add_9ea2d_11 ?_
  refine v_aload_n X rfl dJx4a65c_add_9ea2d_12 ?_
  refine v_getf X fd_Jx4a65c_9 (rl_List γ hj (wl_at _ _ _)) rfl dJx4a65c_add_9ea2d_13 ?_
  refine v_aload_n X rfl dJx4a65c_add_9ea2d_16 ?_
  refine v_getf X fd_Jx4a65c_48 (rl_List γ hj (wl_at _ _ _)) rfl dJx4a65c_add_9ea2d_17 ?_
  refine v_callV (ci := 0) X mv_Jx4a65c_131 (c_Jx4a65c_add_72be8_a l γ (wl W j ((mc + nI 1), q, d, cp, row)) j (mc + nI 1) q d cp row hj (wl_at _ _ _) hc hq hd hy hqc b o hb ho) rfl rfl (rl_List γ hj (wl_at _ _ _)) rfl ⟨Nat.le_of_ble_eq_true rfl, Nat.le_of_ble_eq_true rfl, Nat.le_of_ble_eq_true rfl, Nat.le_of_ble_eq_true rfl⟩ (Nat.le_of_ble_eq_true rfl) rfl dJx4a65c_add_9ea2d_20 rfl (det_v ?_)
  rw [wl_wl]
  refine v_iconst' X kc_1 dJx4a65c_add_9ea2d_23 ?_
  subst hQ0
  exact v_zret X rfl rfl (Nat.le_of_ble_eq_true rfl) (Nat.le_of_ble_eq_true rfl) dJx4a65c_add_9ea2d_24 ⟨rfl, rfl⟩
set_option maxHeartbeats 4000000 in
set_option maxRecDepth 100000 in
theorem c_Jx4a65c_add_9ea2d_g (l : Launch) (γ : Gm) (W : Wd) (j : Nat) (mc : Int32) (row : Nat → Option Nat) (hj : j < 9) (hv : W.2.1 j = (mc, 0, γ.2.2.2 2, 0, row)) (hn : γ.1 + 92 ≤ W.2.2.2.2) (b : Nat) (o : Nat → Int32) (hb : γ.1 + 92 ≤ b) (ho : W.2.2.1 b = some (.inr o)) (hbn : b < W.2.2.2.2) : Cr l γ yJx4a65c_add_9ea2d cJx4a65c_add_9ea2d 2 (some .boolean) 6 150 1 10 [.ref (γ.1 + lA j), .ref b] (rdw γ W) (Det (some (.int (nI 1))) (rdw γ (wl (wgrow (wl W j ((mc + nI 1), 0, γ.2.2.2 2, 0, row)) j 10 (fun _ => none)) j ((mc + nI 1), 1, W.2.2.2.2, 10, va_up (fun _ => none) 0 (some b))))) := by
  refine Cr_of [some (.ref (γ.1 + lA j)), some (.ref b)] (by decide +kernel) (Nat.le_of_ble_eq_true rfl) rfl ?_
  intro p e s m args below meth c X
  refine v_q0 (fun Q0 hQ0 => ?_)
  refine v_aload_n X rfl dJx4a65c_add_9ea2d_0 ?_
  refine v_dup X rfl dJx4a65c_add_9ea2d_1 ?_
  refine v_getf X fd_Jx4a65c_63 (rl_List γ hj hv) rfl dJx4a65c_add_9ea2d_2 ?_
  refine v_iconst' X kc_1 dJx4a65c_add_9ea2d_5 ?_
  refine v_iadd X dJx4a65c_add_9ea2d_6 ?_
  refine v_putf X fp_Jx4a65c_63 (rl_List γ hj hv) rfl rfl (Nat.le_of_ble_eq_true rfl) dJx4a65c_add_9ea2d_7 ?_
  refine v_eqh (up_l' γ hj hv _ _) ?_
  refine v_aload_n X rfl dJx4a65c_add_9ea2d_10 ?_
  refine v_aload_n X rfl dJx4a65c_add_9ea2d_11 ?_
  refine v_aload_n X rfl dJx4a65c_add_9ea2d_12 ?_
  refine v_getf X fd_Jx4a65c_9 (rl_List γ hj (wl_at _ _ _)) rfl dJx4a65c_add_9ea2d_13 ?_
  refine v_aload_n X rfl dJx4a65c_add_9ea2d_16 ?_
  refine v_getf X fd_Jx4a65c_48 (rl_List γ hj (wl_at _ _ _)) rfl dJx4a65c_add_9ea2d_17 ?_
  refine v_callV (ci := 0) X mv_Jx4a65c_131 (c_Jx4a65c_add_72be8_g l γ (wl W j ((mc + nI 1), 0, γ.2.2.2 2, 0, row)) j (mc + nI 1) row hj (wl_at _ _ _) hn b o hb ho hbn) rfl rfl (rl_List γ hj (wl_at _ _ _)) rfl ⟨Nat.le_of_ble_eq_true rfl, Nat.le_of_ble_eq_true rfl, Nat.le_of_ble_eq_true rfl, Nat.le_of_ble_eq_true rfl⟩ (Nat.le_of_ble_eq_true rfl) rfl dJx4a65c_add_9ea2d_20 rfl (det_v ?_)
  refine v_iconst' X kc_1 dJx4a65c_add_9ea2d_23 ?_
  subst hQ0
  exact v_zret X rfl rfl (Nat.le_of_ble_eq_true rfl) (Nat.le_of_ble_eq_true rfl) dJx4a65c_add_9ea2d_24 ⟨rfl, rfl⟩
set_option maxHeartbeats 4000000 in
set_option maxRecDepth 100000 in
theorem c_Jx4a65c_clear_da8c8_a (l : Launch) (γ : Gm) (W : Wd) (j : Nat) (mc : Int32) (q d cp : Nat) (row : Nat → Option Nat) (hj : j < 9) (hv : W.2.1 j = (mc, q, d, cp, row)) (hc : cp ≤ 15) (hq : q ≤ cp) (hd : γ.1 + 92 ≤ d) (hy : W.2.2.1 d = some (.inl j)) : Cr l γ yJx4a65c_clear_da8c8 cJx4a65c_clear_da8c8 4 none 0 0 0 0 [.ref (γ.1 + lA j)] (rdw γ W) (Det none (rdw γ (wl W j ((mc + nI 1), 0, d, cp, c_nul row q)))) := by
  refine Cr_of [some (.ref (γ.1 + lA j)), none, none, none] (by decide +kernel) (Nat.le_of_ble_eq_true rfl) rfl ?_
  intro p e s m args below meth c X
  refine v_q0 (fun Q0 hQ0 => ?_)
  refine v_aload_n X rfl dJx4a65c_clear_da8c8_0 ?_
  refine v_dup X rfl dJx4a65c_clear_da8c8_1 ?_
  refine v_getf X fd_Jx4a65c_63 (rl_List γ hj hv) rfl dJx4a65c_clear_da8c8_2 ?_
  refine v_iconst' X kc_1 dJx4a65c_clear_da8c8_5 ?_
  refine v_iadd X dJx4a65c_clear_da8c8_6 ?_
  refine v_putf X fp_Jx4a65c_63 (rl_List γ hj hv) rfl rfl (Nat.le_of_ble_eq_true rfl) dJx4a65c_clear_da8c8_7 ?_
  refine v_eqh (up_l' γ hj hv _ _) ?_
  refine v_aload_n X rfl dJx4a65c_clear_da8c8_10 ?_
  refine v_getf X fd_Jx4a65c_9 (rl_List γ hj (wl_at _ _ _)) rfl dJx4a65c_clear_da8c8_11 ?_
  refine v_astore_n X (Nat.le_of_ble_eq_true rfl) rfl dJx4a65c_clear_da8c8_14 ?_
  refine v_aload_n X rfl dJx4a65c_clear_da8c8_15 ?_
  refine v_getf X fd_Jx4a65c_48 (rl_List γ hj (wl_at _ _ _)) rfl dJx4a65c_clear_da8c8_16 ?_
  refine v_istore_n X (Nat.le_of_ble_eq_true rfl) rfl dJx4a65c_clear_da8c8_19 ?_
  refine v_aload_n X rfl dJx4a65c_clear_da8c8_20 ?_
  refine v_iconst' X kc_0 dJx4a65c_clear_da8c8_21 ?_
  refine v_dup_x1 X rfl rfl dJx4a65c_clear_da8c8_22 ?_
  refine v_putf X fp_Jx4a65c_48 (rl_List γ hj (wl_at _ _ _)) rfl rfl (Nat.le_of_ble_eq_true rfl) dJx4a65c_clear_da8c8_23 ?_
  refine v_eqh (up_l' γ hj (wl_at _ _ _) _ _) ?_
  rw [wl_wl]
  refine v_istore_n X (Nat.le_of_ble_eq_true rfl) rfl dJx4a65c_clear_da8c8_26 ?_
  have lp27 : ∀ (n : Nat) (t : Nat), t ≤ q ∧ q + 1 ≤ t + n → V p l e { frames := 0, cells := 0, slots := 0, locals := 0 } s m args below meth c γ Q0 (rdw γ (wl W j ((mc + nI 1), 0, d, cp, c_nul row t))) 0 0 27 [some (.ref (γ.1 + lA j)), some (.ref d), some (.int (nI q)), some (.int (nI t))] [] := by
    intro n
    induction n with
    | zero =>
      intro t hbd
      exact absurd hbd (by omega)
    | succ n ih =>
      intro t hbd
      refine v_iload_n X rfl dJx4a65c_clear_da8c8_27 ?_
      refine v_iload_n X rfl dJx4a65c_clear_da8c8_28 ?_
      refine v_icmp_ge_n (tgt := 42) X dJx4a65c_clear_da8c8_29 (by decide) (by omega) (by omega) (fun c_1 => ?_) (fun c_1 => ?_)
      · have ht : q = t := by omega
        subst ht
        subst hQ0
        exact v_vret X rfl (Nat.le_of_ble_eq_true rfl) (Nat.le_of_ble_eq_true rfl) dJx4a65c_clear_da8c8_42 ⟨rfl, rfl⟩
      · refine v_aload_n X rfl dJx4a65c_clear_da8c8_32 ?_
        refine v_iload_n X rfl dJx4a65c_clear_da8c8_33 ?_
        refine v_aconst_null X dJx4a65c_clear_da8c8_34 ?_
        refine v_aastN (t0 := 2) X (rl_Row γ (wl_at _ _ _) hd hy) rfl t rfl (by omega) (by omega) dJx4a65c_clear_da8c8_35 ?_
        refine v_eqh (up_lrow' γ hj (wl_at _ _ _) hd hy _) ?_
        rw [wl_wl, c_nulS]
        refine v_iinc' X rfl rfl (nI_inc _) dJx4a65c_clear_da8c8_36 ?_
        refine v_goto (tgt := 27) X dJx4a65c_clear_da8c8_39 (by decide) ?_
        exact (ih (t + 1) ⟨by omega, by omega⟩)
  have hy9 := lp27 (q + 1) 0 ⟨by omega, by omega⟩
  rw [c_nul0] at hy9
  exact (hy9)
set_option maxHeartbeats 4000000 in
set_option maxRecDepth 100000 in
theorem c_Jx4a65c_clear_da8c8_g (l : Launch) (γ : Gm) (W : Wd) (j : Nat) (mc : Int32) (row : Nat → Option Nat) (hj : j < 9) (hv : W.2.1 j = (mc, 0, γ.2.2.2 2, 0, row)) (hn : γ.1 + 92 ≤ W.2.2.2.2) : Cr l γ yJx4a65c_clear_da8c8 cJx4a65c_clear_da8c8 4 none 0 0 0 0 [.ref (γ.1 + lA j)] (rdw γ W) (Det none (rdw γ (wl W j ((mc + nI 1), 0, γ.2.2.2 2, 0, row)))) := by
  refine Cr_of [some (.ref (γ.1 + lA j)), none, none, none] (by decide +kernel) (Nat.le_of_ble_eq_true rfl) rfl ?_
  intro p e s m args below meth c X
  refine v_q0 (fun Q0 hQ0 => ?_)
  refine v_aload_n X rfl dJx4a65c_clear_da8c8_0 ?_
  refine v_dup X rfl dJx4a65c_clear_da8c8_1 ?_
  refine v_getf X fd_Jx4a65c_63 (rl_List γ hj hv) rfl dJx4a65c_clear_da8c8_2 ?_
  refine v_iconst' X kc_1 dJx4a65c_clear_da8c8_5 ?_
  refine v_iadd X dJx4a65c_clear_da8c8_6 ?_
  refine v_putf X fp_Jx4a65c_63 (rl_List γ hj hv) rfl rfl (Nat.le_of_ble_eq_true rfl) dJx4a65c_clear_da8c8_7 ?_
  refine v_eqh (up_l' γ hj hv _ _) ?_
  refine v_aload_n X rfl dJx4a65c_clear_da8c8_10 ?_
  refine v_getf X fd_Jx4a65c_9 (rl_List γ hj (wl_at _ _ _)) rfl dJx4a65c_clear_da8c8_11 ?_
  refine v_astore_n X (Nat.le_of_ble_eq_true rfl) rfl dJx4a65c_clear_da8c8_14 ?_
  refine v_aload_n X rfl dJx4a65c_clear_da8c8_15 ?_
  refine v_getf X fd_Jx4a65c_48 (rl_List γ hj (wl_at _ _ _)) rfl dJx4a65c_clear_da8c8_16 ?_
  refine v_istore_n X (Nat.le_of_ble_eq_true rfl) rfl dJx4a65c_clear_da8c8_19 ?_
  refine v_aload_n X rfl dJx4a65c_clear_da8c8_20 ?_
  refine v_iconst' X kc_0 dJx4a65c_clear_da8c8_21 ?_
  refine v_dup_x1 X rfl rfl dJx4a65c_clear_da8c8_22 ?_
  refine v_putf X fp_Jx4a65c_48 (rl_List γ hj (wl_at _ _ _)) rfl rfl (Nat.le_of_ble_eq_true rfl) dJx4a65c_clear_da8c8_23 ?_
  refine v_eqh (up_l' γ hj (wl_at _ _ _) _ _) ?_
  rw [wl_wl]
  refine v_istore_n X (Nat.le_of_ble_eq_true rfl) rfl dJx4a65c_clear_da8c8_26 ?_
  refine v_iload_n X rfl dJx4a65c_clear_da8c8_27 ?_
  refine v_iload_n X rfl dJx4a65c_clear_da8c8_28 ?_
  refine v_icmp_ge_t (tgt := 42) X dJx4a65c_clear_da8c8_29 (by decide) (by decide) ?_
  subst hQ0
  exact v_vret X rfl (Nat.le_of_ble_eq_true rfl) (Nat.le_of_ble_eq_true rfl) dJx4a65c_clear_da8c8_42 ⟨rfl, rfl⟩
set_option maxHeartbeats 4000000 in
set_option maxRecDepth 100000 in
theorem c_Jx4a65c_fastRemove_b59b0 (l : Launch) (γ : Gm) (W : Wd) (j : Nat) (mc : Int32) (q d cp : Nat) (row : Nat → Option Nat) (hj : j < 9) (hv : W.2.1 j = (mc, q, d, cp, row)) (hc : cp ≤ 15) (hq : q ≤ cp) (hd : γ.1 + 92 ≤ d) (hy : W.2.2.1 d = some (.inl j)) (i : Nat) (hi : i < q) (hlo : LO γ W row q) : Cr l γ yJx4a65c_fastRemove_b59b0 cJx4a65c_fastRemove_b59b0 4 none 1 40 0 0 [.ref (γ.1 + lA j), .ref d, .int (nI i)] (rdw γ W) (Det none (rdw γ (wl W j ((mc + nI 1), q - 1, d, cp, c_rem row q i)))) := by
  refine Cr_of [some (.ref (γ.1 + lA j)), some (.ref d), some (.int (nI i)), none] (by decide +kernel) (Nat.le_of_ble_eq_true rfl) rfl ?_
  intro p e s m args below meth c X
  refine v_q0 (fun Q0 hQ0 => ?_)
  refine v_aload_n X rfl dJx4a65c_fastRemove_b59b0_0 ?_
  refine v_dup X rfl dJx4a65c_fastRemove_b59b0_1 ?_
  refine v_getf X fd_Jx4a65c_63 (rl_List γ hj hv) rfl dJx4a65c_fastRemove_b59b0_2 ?_
  refine v_iconst' X kc_1 dJx4a65c_fastRemove_b59b0_5 ?_
  refine v_iadd X dJx4a65c_fastRemove_b59b0_6 ?_
  refine v_putf X fp_Jx4a65c_63 (rl_List γ hj hv) rfl rfl (Nat.le_of_ble_eq_true rfl) dJx4a65c_fastRemove_b59b0_7 ?_
  refine v_eqh (up_l' γ hj hv _ _) ?_
  refine v_aload_n X rfl dJx4a65c_fastRemove_b59b0_10 ?_
  refine v_getf X fd_Jx4a65c_48 (rl_List γ hj (wl_at _ _ _)) rfl dJx4a65c_fastRemove_b59b0_11 ?_
  refine v_iconst' X kc_1 dJx4a65c_fastRemove_b59b0_14 ?_
  refine v_isub' X (v := nI (q - 1)) (pk_sub (by omega)) dJx4a65c_fastRemove_b59b0_15 ?_
  refine v_dup X rfl dJx4a65c_fastRemove_b59b0_16 ?_
  refine v_istore_n X (Nat.le_of_ble_eq_true rfl) rfl dJx4a65c_fastRemove_b59b0_17 ?_
  refine v_iload_n X rfl dJx4a65c_fastRemove_b59b0_18 ?_
  refine v_icmp_le_n (tgt := 34) X dJx4a65c_fastRemove_b59b0_19 (by decide) (by omega) (by omega) (fun q1 => ?_) (fun q1 => ?_)
  · refine v_aload_n X rfl dJx4a65c_fastRemove_b59b0_34 ?_
    refine v_aload_n X rfl dJx4a65c_fastRemove_b59b0_35 ?_
    refine v_iload_n X rfl dJx4a65c_fastRemove_b59b0_36 ?_
    refine v_dup_x1 X rfl rfl dJx4a65c_fastRemove_b59b0_37 ?_
    refine v_putf X fp_Jx4a65c_48 (rl_List γ hj (wl_at _ _ _)) rfl rfl (Nat.le_of_ble_eq_true rfl) dJx4a65c_fastRemove_b59b0_38 ?_
    refine v_eqh (up_l' γ hj (wl_at _ _ _) _ _) ?_
    rw [wl_wl]
    refine v_aconst_null X dJx4a65c_fastRemove_b59b0_41 ?_
    refine v_aastN (t0 := 2) X (rl_Row γ (wl_at _ _ _) hd hy) rfl (q - 1) rfl (by omega) (by omega) dJx4a65c_fastRemove_b59b0_42 ?_
    refine v_eqh (up_lrow' γ hj (wl_at _ _ _) hd hy _) ?_
    rw [wl_wl]
    subst hQ0
    exact v_vret X rfl (Nat.le_of_ble_eq_true rfl) (Nat.le_of_ble_eq_true rfl) dJx4a65c_fastRemove_b59b0_43 ⟨rfl, by first | rw [c_rem0 row (by omega)] | rfl⟩
  · refine v_aload_n X rfl dJx4a65c_fastRemove_b59b0_22 ?_
    refine v_iload_n X rfl dJx4a65c_fastRemove_b59b0_23 ?_
    refine v_iconst' X kc_1 dJx4a65c_fastRemove_b59b0_24 ?_
    refine v_iadd' X (nI_add _ _) dJx4a65c_fastRemove_b59b0_25 ?_
    refine v_aload_n X rfl dJx4a65c_fastRemove_b59b0_26 ?_
    refine v_iload_n X rfl dJx4a65c_fastRemove_b59b0_27 ?_
    refine v_iload_n X rfl dJx4a65c_fastRemove_b59b0_28 ?_
    refine v_iload_n X rfl dJx4a65c_fastRemove_b59b0_29 ?_
    refine v_isub' X (v := nI (q - 1 - i)) (pk_sub (by omega)) dJx4a65c_fastRemove_b59b0_30 ?_
    refine v_copyq (t0 := 2) X ac_Jx4a65c_112 (rl_Row γ (wl_at _ _ _) hd hy) (rl_Row γ (wl_at _ _ _) hd hy) rfl (i + 1) i (q - 1 - i) rfl rfl rfl (by omega) (by omega) (by omega) (by omega) (fun z hz => LO_ok (W := wl W j ((mc + nI 1), q, d, cp, row)) (q := q) hlo (cx_cast X) (by omega)) (Nat.le_of_ble_eq_true rfl) (Nat.le_of_ble_eq_true rfl) rfl dJx4a65c_fastRemove_b59b0_31 ?_
    refine v_eqh (up_lrow' γ hj (wl_at _ _ _) hd hy _) ?_
    rw [wl_wl]
    refine v_aload_n X rfl dJx4a65c_fastRemove_b59b0_34 ?_
    refine v_aload_n X rfl dJx4a65c_fastRemove_b59b0_35 ?_
    refine v_iload_n X rfl dJx4a65c_fastRemove_b59b0_36 ?_
    refine v_dup_x1 X rfl rfl dJx4a65c_fastRemove_b59b0_37 ?_
    refine v_putf X fp_Jx4a65c_48 (rl_List γ hj (wl_at _ _ _)) rfl rfl (Nat.le_of_ble_eq_true rfl) dJx4a65c_fastRemove_b59b0_38 ?_
    refine v_eqh (up_l' γ hj (wl_at _ _ _) _ _) ?_
    rw [wl_wl]
    refine v_aconst_null X dJx4a65c_fastRemove_b59b0_41 ?_
    refine v_aastN (t0 := 2) X (rl_Row γ (wl_at _ _ _) hd hy) rfl (q - 1) rfl (by omega) (by omega) dJx4a65c_fastRemove_b59b0_42 ?_
    refine v_eqh (up_lrow' γ hj (wl_at _ _ _) hd hy _) ?_
    rw [wl_wl]
    subst hQ0
    exact v_vret X rfl (Nat.le_of_ble_eq_true rfl) (Nat.le_of_ble_eq_true rfl) dJx4a65c_fastRemove_b59b0_43 ⟨rfl, by first | rw [c_rem0 row (by omega)] | rfl⟩
set_option maxHeartbeats 4000000 in
set_option maxRecDepth 100000 in
theorem c_Jx4a65c_remove_915e3 (l : Launch) (γ : Gm) (W : Wd) (j : Nat) (mc : Int32) (q d cp : Nat) (row : Nat → Option Nat) (hj : j < 9) (hv : W.2.1 j = (mc, q, d, cp, row)) (hc : cp ≤ 15) (hq : q ≤ cp) (hd : γ.1 + 92 ≤ d) (hy : W.2.2.1 d = some (.inl j)) (i : Nat) (hi : i < q) (hlo : LO γ W row q) (a : Nat) (ha : row i = some a) : Cr l γ yJx4a65c_remove_915e3 cJx4a65c_remove_915e3 4 (some (.object "java/lang/Object")) 2 63 0 0 [.ref (γ.1 + lA j), .int (nI i)] (rdw γ W) (Det (some (.ref a)) (rdw γ (wl W j ((mc + nI 1), q - 1, d, cp, c_rem row q i)))) := by
  refine Cr_of [some (.ref (γ.1 + lA j)), some (.int (nI i)), none, none] (by decide +kernel) (Nat.le_of_ble_eq_true rfl) rfl ?_
  intro p e s m args below meth c X
  refine v_q0 (fun Q0 hQ0 => ?_)
  refine v_iload_n X rfl dJx4a65c_remove_915e3_0 ?_
  refine v_aload_n X rfl dJx4a65c_remove_915e3_1 ?_
  refine v_getf X fd_Jx4a65c_48 (rl_List γ hj hv) rfl dJx4a65c_remove_915e3_2 ?_
  refine v_callS X ms_Jx4a65c_118 (c_J15_checkIndex_7cf53 l γ _ i q hi (by omega)) rfl ⟨Nat.le_of_ble_eq_true rfl, Nat.le_of_ble_eq_true rfl, Nat.le_of_ble_eq_true rfl, Nat.le_of_ble_eq_true rfl⟩ (Nat.le_of_ble_eq_true rfl) rfl dJx4a65c_remove_915e3_5 rfl (det_i ?_)
  refine v_pop X rfl dJx4a65c_remove_915e3_8 ?_
  refine v_aload_n X rfl dJx4a65c_remove_915e3_9 ?_
  refine v_getf X fd_Jx4a65c_9 (rl_List γ hj hv) rfl dJx4a65c_remove_915e3_10 ?_
  refine v_astore_n X (Nat.le_of_ble_eq_true rfl) rfl dJx4a65c_remove_915e3_13 ?_
  refine v_aload_n X rfl dJx4a65c_remove_915e3_14 ?_
  refine v_iload_n X rfl dJx4a65c_remove_915e3_15 ?_
  refine v_aald (t0 := 2) X (rl_Row γ hv hd hy) rfl i rfl (by omega) (by omega) ha dJx4a65c_remove_915e3_16 ?_
  refine v_astore_n X (Nat.le_of_ble_eq_true rfl) rfl dJx4a65c_remove_915e3_17 ?_
  refine v_aload_n X rfl dJx4a65c_remove_915e3_18 ?_
  refine v_aload_n X rfl dJx4a65c_remove_915e3_19 ?_
  refine v_iload_n X rfl dJx4a65c_remove_915e3_20 ?_
  refine v_callV (ci := 0) X mv_Jx4a65c_144 (c_Jx4a65c_fastRemove_b59b0 l γ W j mc q d cp row hj hv hc hq hd hy i hi hlo) rfl rfl (rl_List γ hj hv) rfl ⟨Nat.le_of_ble_eq_true rfl, Nat.le_of_ble_eq_true rfl, Nat.le_of_ble_eq_true rfl, Nat.le_of_ble_eq_true rfl⟩ (Nat.le_of_ble_eq_true rfl) rfl dJx4a65c_remove_915e3_21 rfl (det_v ?_)
  refine v_aload_n X rfl dJx4a65c_remove_915e3_24 ?_
  subst hQ0
  exact v_aret X rfl (Or.inl ⟨_, rfl⟩) (Nat.le_of_ble_eq_true rfl) (Nat.le_of_ble_eq_true rfl) dJx4a65c_remove_915e3_25 ⟨rfl, rfl⟩
