theorem i_dec1 (a : Int32) : a + Int32.ofInt (-1) = a - nI 1 := by rw [show Int32.ofInt (-1) = (-1) from by decide]; exact i_m1b a
set_option maxHeartbeats 4000000 in
set_option maxRecDepth 100000 in
theorem c_X2_carryOutOrders (l : Launch) (γ : Gm) (w : Wd) (g : Nat → Int32) (k : Nat) (hk : k < 8) (cn q : Nat) (hc : g 218 = nI cn) (h1 : 1 ≤ cn) (h6 : cn ≤ 6) (hq : OQ g q) (ht : TP g cn) (hL : LF γ w k 168 q g) : Cr l γ yX2_carryOutOrders cX2_carryOutOrders 4 none 3 86 0 0 [.ref (γ.1 + so k)] (rdw γ (wset w k g)) (fun v h' => v = none ∧ ∃ (v2 : LVt) (q2 : Nat), h' = rdw γ (wset (wl w k v2) k (q_ord cn q 0 g)) ∧ q2 ≤ q ∧ OQ (q_ord cn q 0 g) q2 ∧ LF γ (wl w k v2) k 168 q2 (q_ord cn q 0 g)) := by
  obtain rfl := hL.q0
  refine Cr_of [some (.ref (γ.1 + so k)), none, none, none] (by decide +kernel) (Nat.le_of_ble_eq_true rfl) rfl ?_
  intro p e s m args below meth c X
  refine v_q0 (fun Q0 hQ0 => ?_)
  obtain ⟨row, hB, hR⟩ := hL
  refine v_iconst' X kc_0 dX2_carryOutOrders_0 ?_
  refine v_istore_n X (Nat.le_of_ble_eq_true rfl) rfl dX2_carryOutOrders_1 ?_
  refine v_iconst' X kc_0 dX2_carryOutOrders_2 ?_
  refine v_istore_n X (Nat.le_of_ble_eq_true rfl) rfl dX2_carryOutOrders_3 ?_
  refine v_iload_n X rfl dX2_carryOutOrders_4 ?_
  refine v_aload_n X rfl dX2_carryOutOrders_5 ?_
  refine v_getf X fd_X2_32 (rd_State γ _ _ hk) rfl dX2_carryOutOrders_6 ?_
  refine v_callV (ci := 0) X mv_X2_111 (k_size l γ (wset w k g) k 0 row (by omega) _ (lA_so γ hk) hB) rfl rfl (rd_SList γ _ hk) rfl ⟨Nat.le_of_ble_eq_true rfl, Nat.le_of_ble_eq_true rfl, Nat.le_of_ble_eq_true rfl, Nat.le_of_ble_eq_true rfl⟩ (Nat.le_of_ble_eq_true rfl) rfl dX2_carryOutOrders_9 rfl (det_i ?_)
  refine v_icmp_ge_t (tgt := 74) X dX2_carryOutOrders_12 (by decide) (by decide) ?_
  refine v_aload_n X rfl dX2_carryOutOrders_74 ?_
  refine v_getf X fd_X2_32 (rd_State γ _ _ hk) rfl dX2_carryOutOrders_75 ?_
  refine v_callV (ci := 0) X mv_X2_111 (k_size l γ (wset w k g) k 0 row (by omega) _ (lA_so γ hk) hB) rfl rfl (rd_SList γ _ hk) rfl ⟨Nat.le_of_ble_eq_true rfl, Nat.le_of_ble_eq_true rfl, Nat.le_of_ble_eq_true rfl, Nat.le_of_ble_eq_true rfl⟩ (Nat.le_of_ble_eq_true rfl) rfl dX2_carryOutOrders_78 rfl (det_i ?_)
  refine v_iconst' X kc_1 dX2_carryOutOrders_81 ?_
  refine v_isub X dX2_carryOutOrders_82 ?_
  refine v_istore_n X (Nat.le_of_ble_eq_true rfl) rfl dX2_carryOutOrders_83 ?_
  refine v_iload_n X rfl dX2_carryOutOrders_84 ?_
  refine v_iload_n X rfl dX2_carryOutOrders_85 ?_
  refine v_icmp_lt_t (tgt := 104) X dX2_carryOutOrders_86 (by decide) (by decide) ?_
  subst hQ0
  exact v_vret X rfl (Nat.le_of_ble_eq_true rfl) (Nat.le_of_ble_eq_true rfl) dX2_carryOutOrders_104 ⟨rfl, w.2.1 k, 0, by rw [wl_self]; rfl, Nat.le_refl _, hq, row, by rw [wl_self]; exact hB, fun t z => absurd z (by omega)⟩
