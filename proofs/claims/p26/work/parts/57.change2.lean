theorem sec_ci {γ : Gm} {W3 : Wd} {c : Nat} {N P T : Nat → Int32} {u t cn q tm q2 : Nat} {v2 : LVt} (h : CI γ (wset W3 0 N) c N P T u t cn q tm) (hQ : OQ (q_second N) q2) (hF : LF γ (wl W3 0 v2) 0 168 q2 (q_second N)) (ht : tm + 1 ≤ 9999) : CI γ (wset (wl W3 0 v2) 0 (q_second N)) c (q_second N) P T u t cn q2 (tm + 1) := by
  obtain ⟨q', -, hv⟩ := VT_pass h.2.1 1 ht
  have hv : VT (q_second N) cn q' (tm + 1) := hv
  exact h.upd0 (Ext.wl _ _ _) (ws_same _ _ _) (fun b _ hb => (ws_ne _ _ hb).trans (ws_ne _ _ hb).symm) (fun b _ hb => wl_ne _ _ hb) ⟨hv.1.setq hQ, hv.2⟩ hF
set_option maxHeartbeats 4000000 in
set_option maxRecDepth 100000 in
theorem c_X6_undo (l : Launch) (γ : Gm) (W : Wd) (nc : Nat) (M P T : Nat → Int32) (u t cn q tm : Nat) (hI : CI γ W nc M P T u t cn q tm) (hnc : nc < 600) : Cr l γ yX6_undo cX6_undo 1 (some .int) 10 235 12 180 [.ref γ.1] (rdw γ W) (fun v h' => v = some (.int (if u = 0 then (-1003) else nI (u - 1))) ∧ ((u = 0 ∧ h' = rdw γ W) ∨ (¬ u = 0 ∧ ∃ (W' : Wd) (cn2 q2 tm2 : Nat), h' = rdw γ W' ∧ CI γ W' nc (s_ld M P (233 * (u - 1)) 233) P T (u - 1) t cn2 q2 tm2 ∧ RB W W'))) := by
  refine Cr_of [some (.ref γ.1)] (by decide +kernel) (Nat.le_of_ble_eq_true rfl) rfl ?_
  intro p e s m args below meth c X
  refine v_q0 (fun Q0 hQ0 => ?_)
  have hI0 := hI
  obtain ⟨hM, hV, hF, hL1, hL8, hH, hX, hN⟩ := hI0
  obtain ⟨hVS, hT, hT9⟩ := hV
  obtain ⟨⟨hc, h1, h6⟩, hOQ, hTP, hHB, hSR⟩ := hVS
  have h10 := hOQ.2.1
  have hB9 : 3600 * (tm : Int) < 1000000000 := by omega
  obtain ⟨nx, hn1, hn2, hn3, hn4, hn5, -⟩ := hH
  refine v_aload_n X rfl dX6_undo_0 ?_
  refine v_getf X fd_X6_29 (rd_BT γ _) rfl dX6_undo_1 ?_
  refine v_getf X (v := (.int (W.1 9 1))) fd_X6_159 (rd_Hist γ _) rfl dX6_undo_4 ?_
  rw [hn2]
  refine v_if_ne_n (tgt := 14) X dX6_undo_7 (by decide) (by omega) (fun q1 => ?_) (fun q1 => ?_)
  · refine v_aload_n X rfl dX6_undo_14 ?_
    refine v_getf X fd_X6_29 (rd_BT γ _) rfl dX6_undo_15 ?_
    refine v_aload_n X rfl dX6_undo_18 ?_
    refine v_getf X fd_X6_19 (rd_BT γ _) rfl dX6_undo_19 ?_
    refine v_callV (ci := 1) X mv_X6_161 (k_restore l γ W nc M P T u t cn q tm hI hnc (by omega)) rfl rfl (rd_Hist γ _) rfl ⟨Nat.le_of_ble_eq_true rfl, Nat.le_of_ble_eq_true rfl, Nat.le_of_ble_eq_true rfl, Nat.le_of_ble_eq_true rfl⟩ (Nat.le_of_ble_eq_true rfl) rfl dX6_undo_22 rfl (nd_v (fun h9 hp9 => ?_))
    obtain ⟨W2, cn2, q2, tm2, rfl, hI3, hR3⟩ := hp9
    obtain ⟨nx2, -, hm2, -⟩ := hI3.2.2.2.2.2.1
    refine v_aload_n X rfl dX6_undo_25 ?_
    refine v_getf X fd_X6_29 (rd_BT γ _) rfl dX6_undo_26 ?_
    refine v_getf X (v := (.int (W2.1 9 1))) fd_X6_159 (rd_Hist γ _) rfl dX6_undo_29 ?_
    rw [hm2]
    subst hQ0
    exact v_iret X rfl (Nat.le_of_ble_eq_true rfl) (Nat.le_of_ble_eq_true rfl) dX6_undo_32 ⟨so_some (if_neg q1).symm, Or.inr ⟨q1, W2, cn2, q2, tm2, rfl, hI3, hR3⟩⟩
  · refine v_sipush' X ks_m1003 dX6_undo_10 ?_
    subst hQ0
    exact v_iret X rfl (Nat.le_of_ble_eq_true rfl) (Nat.le_of_ble_eq_true rfl) dX6_undo_13 ⟨so_some (if_pos q1).symm, Or.inl ⟨q1, rfl⟩⟩
set_option maxHeartbeats 4000000 in
set_option maxRecDepth 100000 in
theorem c_X6_pass (l : Launch) (γ : Gm) (W : Wd) (nc : Nat) (M P T : Nat → Int32) (u t cn q tm : Nat) (hI : CI γ W nc M P T u t cn q tm) (hnc : nc < 600) (x : Int32) : Cr l γ yX6_pass cX6_pass 3 (some .int) 10 235 12 180 [.ref γ.1, .int x] (rdw γ W) (fun v h' => v = some (.int ((if ¬ x < nI 1 ∧ ¬ nI 200 < x then (if M 222 + x ≤ nI 9999 then (s_secs M x.toNatClampNeg 219) else (-1004)) else (-1002)))) ∧ ((((¬ x < nI 1 ∧ ¬ nI 200 < x) ∧ (M 222 + x ≤ nI 9999)) ∧ ∃ (W' : Wd) (cn2 q2 tm2 : Nat), h' = rdw γ W' ∧ CI γ W' (nc + 1) (s_secs M x.toNatClampNeg) (s_keepP M P u) T (s_u u) t cn2 q2 tm2 ∧ RB W W') ∨ (¬ ((¬ x < nI 1 ∧ ¬ nI 200 < x) ∧ (M 222 + x ≤ nI 9999)) ∧ h' = rdw γ W))) := by
  refine Cr_of [some (.ref γ.1), some (.int x), none] (by decide +kernel) (Nat.le_of_ble_eq_true rfl) rfl ?_
  intro p e s m args below meth c X
  refine v_q0 (fun Q0 hQ0 => ?_)
  have hI0 := hI
  obtain ⟨hM, hV, hF, hL1, hL8, hH, hX, hN⟩ := hI0
  obtain ⟨hVS, hT, hT9⟩ := hV
  obtain ⟨⟨hc, h1, h6⟩, hOQ, hTP, hHB, hSR⟩ := hVS
  have h10 := hOQ.2.1
  have hB9 : 3600 * (tm : Int) < 1000000000 := by omega
  refine v_eqh (CI_w hI) ?_
  have hI2 := hI.self
  refine v_iload_n X rfl dX6_pass_0 ?_
  refine v_iconst' X kc_1 dX6_pass_1 ?_
  refine v_sipush' X ks_200 dX6_pass_2 ?_
  refine v_callS X ms_X6_33 (c_X6_isWithin l γ _ _ _ _) rfl ⟨Nat.le_of_ble_eq_true rfl, Nat.le_of_ble_eq_true rfl, Nat.le_of_ble_eq_true rfl, Nat.le_of_ble_eq_true rfl⟩ (Nat.le_of_ble_eq_true rfl) rfl dX6_pass_5 rfl (det_i ?_)
  refine v_if_ne_b (tgt := 15) X dX6_pass_8 (by decide) (fun q1 => ?_) (fun q1 => ?_)
  · obtain ⟨n, hn1, hn2, rfl⟩ := in_nat1 (by decide) (by decide) q1
    have ej : (nI n).toNatClampNeg = n := nI_clamp (by omega)
    refine v_aload_n X rfl dX6_pass_15 ?_
    refine v_getf X fd_X6_19 (rd_BT γ _) rfl dX6_pass_16 ?_
    refine v_getf X (v := .int (M 222)) fd_X6_130 (rd_State γ _ _ (by decide)) rfl dX6_pass_19 ?_
    refine v_iload_n X rfl dX6_pass_22 ?_
    refine v_iadd X dX6_pass_23 ?_
    refine v_sipush' X ks_9999 dX6_pass_24 ?_
    refine v_icmp_le (tgt := 34) X dX6_pass_27 (by decide) (fun q2 => ?_) (fun q2 => ?_)
    · have hle : tm + n ≤ 9999 := by
        have h9 := q2
        rw [hT, nI_add] at h9
        exact (nI_leI (by omega) (by decide)).mp h9
      refine v_aload_n X rfl dX6_pass_34 ?_
      refine v_getf X fd_X6_29 (rd_BT γ _) rfl dX6_pass_35 ?_
      refine v_aload_n X rfl dX6_pass_38 ?_
      refine v_getf X fd_X6_19 (rd_BT γ _) rfl dX6_pass_39 ?_
      refine v_callV (ci := 1) X mv_X6_58 (k_keep l γ (wset W 0 M) nc M P T u t cn q tm hI2 hnc) rfl rfl (rd_Hist γ _) rfl ⟨Nat.le_of_ble_eq_true rfl, Nat.le_of_ble_eq_true rfl, Nat.le_of_ble_eq_true rfl, Nat.le_of_ble_eq_true rfl⟩ (Nat.le_of_ble_eq_true rfl) rfl dX6_pass_42 rfl (nd_v (fun h9 hp9 => ?_))
      obtain ⟨W2, rfl, hI3, hR3, hE3, hl3⟩ := hp9
      refine v_eqh (CI_w hI3) ?_
      refine v_iconst' X kc_0 dX6_pass_45 ?_
      refine v_istore_n X (Nat.le_of_ble_eq_true rfl) rfl dX6_pass_46 ?_
      have lp47 : ∀ (n9 : Nat) (i : Nat) (W3 : Wd) (qi : Nat), i ≤ n ∧ n + 1 ≤ i + n9 → CI γ (wset W3 0 (s_secs M i)) (nc + 1) (s_secs M i) (s_keepP M P u) T (s_u u) t cn qi (tm + i) → RB W W3 → V p l e { frames := 10, cells := 12, slots := 180, locals := 235 } s m args below meth c γ Q0 (rdw γ (wset W3 0 (s_secs M i))) (0 + 12) (0 + 180) 47 [some (.ref γ.1), some (.int (nI n)), some (.int (nI i))] [] := by
        intro n9
        induction n9 with
        | zero =>
          intro i W3 qi hbd
          exact absurd hbd (by omega)
        | succ n9 ih =>
          intro i W3 qi hbd hC hRw
          refine v_iload_n X rfl dX6_pass_47 ?_
          refine v_iload_n X rfl dX6_pass_48 ?_
          refine v_icmp_ge_n (tgt := 65) X dX6_pass_49 (by decide) (by omega) (by omega) (fun c_1 => ?_) (fun c_1 => ?_)
          · obtain rfl : i = n := by omega
            refine v_aload_n X rfl dX6_pass_65 ?_
            refine v_getf X fd_X6_19 (rd_BT γ _) rfl dX6_pass_66 ?_
            refine v_getf X fd_X6_65 (rd_State γ _ _ (by decide)) rfl dX6_pass_69 ?_
            refine v_getf X (v := .int ((s_secs M i) 219)) fd_X6_136 (rd_Train γ _ _ (by decide)) rfl dX6_pass_72 ?_
            subst hQ0
            exact v_iret X rfl (Nat.le_of_ble_eq_true rfl) (Nat.le_of_ble_eq_true rfl) dX6_pass_75 ⟨so_some (by rw [if_pos q1, if_pos q2, ej]), Or.inl ⟨⟨q1, q2⟩, _, _, _, _, rfl, by rw [ej]; exact hC, RBz hRw⟩⟩
          · refine v_aload_n X rfl dX6_pass_52 ?_
            refine v_getf X fd_X6_19 (rd_BT γ _) rfl dX6_pass_53 ?_
            refine v_callV (ci := 2) X mv_X6_133 (c_X2_passSecond l γ W3 (s_secs M i) 0 (by decide) cn qi _ hC.2.1.1 (by omega) hC.2.2.1) rfl rfl (rd_State γ _ _ (by decide)) rfl ⟨Nat.le_of_ble_eq_true rfl, Nat.le_of_ble_eq_true rfl, Nat.le_of_ble_eq_true rfl, Nat.le_of_ble_eq_true rfl⟩ (Nat.le_of_ble_eq_true rfl) rfl dX6_pass_56 rfl (nd_v (fun h9 hp9 => ?_))
            obtain ⟨v2, q2b, rfl, hq2, hQ2, hF3⟩ := hp9
            have hC2 := sec_ci hC hQ2 hF3 (by omega)
            refine v_iinc' X rfl rfl (nI_inc _) dX6_pass_59 ?_
            refine v_goto (tgt := 47) X dX6_pass_62 (by decide) ?_
            exact (ih (i + 1) _ _ ⟨by omega, by omega⟩ hC2 hRw)
      exact (lp47 (n + 1) 0 _ _ ⟨by omega, by omega⟩ hI3.self (RBs hR3))
    · have nok : ¬ ((¬ nI n < nI 1 ∧ ¬ nI 200 < nI n) ∧ M 222 + nI n ≤ nI 9999) := fun z => q2 z.2
      refine v_sipush' X ks_m1004 dX6_pass_30 ?_
      subst hQ0
      exact v_iret X rfl (Nat.le_of_ble_eq_true rfl) (Nat.le_of_ble_eq_true rfl) dX6_pass_33 ⟨so_some (by rw [if_pos q1, if_neg q2]), Or.inr ⟨nok, (CI_w hI).symm⟩⟩
  · have nok : ¬ ((¬ x < nI 1 ∧ ¬ nI 200 < x) ∧ (M 222 + x ≤ nI 9999)) := fun z => q1 z.1
    have ev : (-1002) = ((if ¬ x < nI 1 ∧ ¬ nI 200 < x then (if M 222 + x ≤ nI 9999 then (s_secs M x.toNatClampNeg 219) else (-1004)) else (-1002))) := (if_neg q1).symm
    refine v_sipush' X ks_m1002 dX6_pass_11 ?_
    subst hQ0
    exact v_iret X rfl (Nat.le_of_ble_eq_true rfl) (Nat.le_of_ble_eq_true rfl) dX6_pass_14 ⟨so_some (ev), Or.inr ⟨nok, (CI_w hI).symm⟩⟩
set_option maxHeartbeats 4000000 in
set_option maxRecDepth 100000 in
theorem c_X6_cancel (l : Launch) (γ : Gm) (W : Wd) (nc : Nat) (M P T : Nat → Int32) (u t cn tm : Nat) (hI : CI γ W nc M P T u t cn 0 tm) : Cr l γ yX6_cancel cX6_cancel 2 (some .int) 10 235 0 0 [.ref γ.1, .int (nI 0)] (rdw γ W) (Det (some (.int (-1002))) (rdw γ W)) := by
  refine Cr_of [some (.ref γ.1), some (.int (nI 0))] (by decide +kernel) (Nat.le_of_ble_eq_true rfl) rfl ?_
  intro p e s m args below meth c X
  refine v_q0 (fun Q0 hQ0 => ?_)
  obtain ⟨row, hLB, hLR⟩ := hI.2.2.1
  refine v_iload_n X rfl dX6_cancel_0 ?_
  refine v_if_lt_f (tgt := 18) X dX6_cancel_1 (by decide) (by decide) ?_
  refine v_iload_n X rfl dX6_cancel_4 ?_
  refine v_aload_n X rfl dX6_cancel_5 ?_
  refine v_getf X fd_X6_19 (rd_BT γ _) rfl dX6_cancel_6 ?_
  refine v_getf X fd_X6_112 (rz_State γ (k := 0) (by decide) rfl) rfl dX6_cancel_9 ?_
  refine v_callV (ci := 0) X mv_X6_116 (k_size l γ W 0 0 row (by decide) _ rfl hLB) rfl rfl (rd_SList γ (k := 0) _ (by decide)) rfl ⟨Nat.le_of_ble_eq_true rfl, Nat.le_of_ble_eq_true rfl, Nat.le_of_ble_eq_true rfl, Nat.le_of_ble_eq_true rfl⟩ (Nat.le_of_ble_eq_true rfl) rfl dX6_cancel_12 rfl (det_i ?_)
  refine v_icmp_lt_f (tgt := 22) X dX6_cancel_15 (by decide) (by decide) ?_
  refine v_sipush' X ks_m1002 dX6_cancel_18 ?_
  subst hQ0
  exact v_iret X rfl (Nat.le_of_ble_eq_true rfl) (Nat.le_of_ble_eq_true rfl) dX6_cancel_21 ⟨rfl, rfl⟩
