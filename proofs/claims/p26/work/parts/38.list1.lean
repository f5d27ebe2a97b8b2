set_option maxHeartbeats 4000000 in
set_option maxRecDepth 100000 in
theorem c_Jx4a65c_size_8abf5 (l : Launch) (γ : Gm) (W : Wd) (j : Nat) (mc : Int32) (q d cp : Nat) (row : Nat → Option Nat) (hj : j < 9) (hv : W.2.1 j = (mc, q, d, cp, row)) (hc : cp ≤ 15) (hq : q ≤ cp) : Cr l γ yJx4a65c_size_8abf5 cJx4a65c_size_8abf5 1 (some .int) 0 0 0 0 [.ref (γ.1 + lA j)] (rdw γ W) (Det (some (.int (nI q))) (rdw γ W)) := by
  refine Cr_of [some (.ref (γ.1 + lA j))] (by decide +kernel) (Nat.le_of_ble_eq_true rfl) rfl ?_
  intro p e s m args below meth c X
  refine v_q0 (fun Q0 hQ0 => ?_)
  refine v_aload_n X rfl dJx4a65c_size_8abf5_0 ?_
  refine v_getf X fd_Jx4a65c_48 (rl_List γ hj hv) rfl dJx4a65c_size_8abf5_1 ?_
  subst hQ0
  exact v_iret X rfl (Nat.le_of_ble_eq_true rfl) (Nat.le_of_ble_eq_true rfl) dJx4a65c_size_8abf5_4 ⟨rfl, rfl⟩
set_option maxHeartbeats 4000000 in
set_option maxRecDepth 100000 in
theorem c_Jx4a65c_clear_da8c8_g (l : Launch) (γ : Gm) (W : Wd) (j : Nat) (mc : Int32) (row : Nat → Option Nat) (hj : j < 9) (hv : W.2.1 j = (mc, 0, γ.2.2.2 2, 0, row)) : Cr l γ yJx4a65c_clear_da8c8 cJx4a65c_clear_da8c8 4 none 0 0 0 0 [.ref (γ.1 + lA j)] (rdw γ W) (Det none (rdw γ (wl W j ((mc + nI 1), 0, γ.2.2.2 2, 0, row)))) := by
  refine Cr_of [some (.ref (γ.1 + lA j)), none, none, none] (by decide +kernel) (Nat.le_of_ble_eq_true rfl) rfl ?_
  intro p e s m args below meth c X
  refine v_q0 (fun Q0 hQ0 => ?_)
  refine v_aload_n X rfl dJx4a65c_clear_da8c8_0 ?_
  refine v_dup X rfl dJx4a65c_clear_da8c8_1 ?_
  refine v_getf X fd_Jx4a65c_63 (rl_List γ hj hv) rfl dJx4a65c_clear_da8c8_2 ?_
  refine v_iconst' X kc_1 dJx4a65c_clear_da8c8_5 ?_
  refine v_iadd X dJx4a65c_clear_da8c8_6 ?_
  refine v_putf X fp_Jx4a65c_63 (rl_List γ hj hv) rfl rfl (Nat.le_of_ble_eq_true rfl) dJx4a65c_clear_da8c8_7 ?_
  refine v_eqh (up_l' γ hj hv _ _) ?_
  refine v_aload_n X rfl dJx4a65c_clear_da8c8_10 ?_
  refine v_getf X fd_Jx4a65c_9 (rl_List γ hj (wl_at _ _ _)) rfl dJx4a65c_clear_da8c8_11 ?_
  refine v_astore_n X (Nat.le_of_ble_eq_true rfl) rfl dJx4a65c_clear_da8c8_14 ?_
  refine v_aload_n X rfl dJx4a65c_clear_da8c8_15 ?_
  refine v_getf X fd_Jx4a65c_48 (rl_List γ hj (wl_at _ _ _)) rfl dJx4a65c_clear_da8c8_16 ?_
  refine v_istore_n X (Nat.le_of_ble_eq_true rfl) rfl dJx4a65c_clear_da8c8_19 ?_
  refine v_aload_n X rfl dJx4a65c_clear_da8c8_20 ?_
  refine v_iconst' X kc_0 dJx4a65c_clear_da8c8_21 ?_
  refine v_dup_x1 X rfl rfl dJx4a65c_clear_da8c8_22 ?_
  refine v_putf X fp_Jx4a65c_48 (rl_List γ hj (wl_at _ _ _)) rfl rfl (Nat.le_of_ble_eq_true rfl) dJx4a65c_clear_da8c8_23 ?_
  refine v_eqh (up_l' γ hj (wl_at _ _ _) _ _) ?_
  rw [wl_wl]
  refine v_istore_n X (Nat.le_of_ble_eq_true rfl) rfl dJx4a65c_clear_da8c8_26 ?_
  refine v_iload_n X rfl dJx4a65c_clear_da8c8_27 ?_
  refine v_iload_n X rfl dJx4a65c_clear_da8c8_28 ?_
  refine v_icmp_ge_t (tgt := 42) X dJx4a65c_clear_da8c8_29 (by decide) (by decide) ?_
  subst hQ0
  exact v_vret X rfl (Nat.le_of_ble_eq_true rfl) (Nat.le_of_ble_eq_true rfl) dJx4a65c_clear_da8c8_42 ⟨rfl, rfl⟩
