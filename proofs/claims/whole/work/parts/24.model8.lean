def q_add (M R : Nat → Int32) (q g : Nat) : Nat → Int32 := upd (s_cp R M (168 + 5 * q) (5 * g)) 223 (nI (q + g))
theorem s_cp223 (M R : Nat → Int32) {b t : Nat} (h : b + t ≤ 218) : s_cp R M b t 223 = M 223 := by
  simp only [s_cp]; rw [if_neg (by omega)]
set_option maxHeartbeats 4000000 in
set_option maxRecDepth 100000 in
theorem c_X7_order (l : Launch) (γ : Gm) (W : Wd) (u : Nat) (hu : W.1 15 0 = nI u) (h6u : u ≤ 6) (n : Nat) (hn : W.1 15 1 = nI n) (h60 : n ≤ 60) (q : Nat) (hq : W.1 10 223 = nI q) (h10 : q ≤ 10) : Cr l γ yX7_order cX7_order 2 (some .int) 6 126 0 0 [.ref (γ.1 + 86)] (rdw γ W) (Det (some (.int (if (r_reads (W.1 13) n (W.1 14)).1.2 = (-1001) then (if q + (r_reads (W.1 13) n (W.1 14)).2.1 ≤ 10 then nI (r_reads (W.1 13) n (W.1 14)).2.1 else (-1004)) else (-1003)))) (rdw γ (if (r_reads (W.1 13) n (W.1 14)).1.2 = (-1001) then (if q + (r_reads (W.1 13) n (W.1 14)).2.1 ≤ 10 then (wset (wset (wset (wset W 10 (q_add (W.1 10) (r_reads (W.1 13) n (W.1 14)).2.2 q (r_reads (W.1 13) n (W.1 14)).2.1)) 11 (s_keepP (W.1 10) (W.1 11) u)) 14 (r_reads (W.1 13) n (W.1 14)).2.2) 15 (upd (st (upd (W.1 15) 2 (nI (r_reads (W.1 13) n (W.1 14)).2.1)) (r_reads (W.1 13) n (W.1 14)).1) 0 (nI (s_u u)))) else (wset (wset W 14 (r_reads (W.1 13) n (W.1 14)).2.2) 15 (st (upd (W.1 15) 2 (nI (r_reads (W.1 13) n (W.1 14)).2.1)) (r_reads (W.1 13) n (W.1 14)).1))) else (wset (wset W 14 (r_reads (W.1 13) n (W.1 14)).2.2) 15 (st (upd (W.1 15) 2 (nI (r_reads (W.1 13) n (W.1 14)).2.1)) (r_reads (W.1 13) n (W.1 14)).1))))) := by
  refine Cr_of [some (.ref (γ.1 + 86)), none] (by decide +kernel) (Nat.le_of_ble_eq_true rfl) rfl ?_
  intro p e s m args below meth c X
  refine v_q0 (fun Q0 hQ0 => ?_)
  refine v_aload_n X rfl dX7_order_0 ?_
  refine v_callV (ci := 8) X mv_X7_84 (c_X7_reads l γ _ n (by exact hn) h60) rfl rfl (rd_Model γ _) rfl ⟨Nat.le_of_ble_eq_true rfl, Nat.le_of_ble_eq_true rfl, Nat.le_of_ble_eq_true rfl, Nat.le_of_ble_eq_true rfl⟩ (Nat.le_of_ble_eq_true rfl) rfl dX7_order_1 rfl (det_v ?_)
  try simp (disch := decide) only [ws_11_10, ws_12_10, ws_12_11, ws_13_10, ws_13_11, ws_13_12, ws_14_10, ws_14_11, ws_14_12, ws_14_13, ws_15_10, ws_15_11, ws_15_12, ws_15_13, ws_15_14, wset_wset, ws_same, ws_ne, wh_ws]
  refine v_aload_n X rfl dX7_order_4 ?_
  refine v_getf X (v := .int ((st (upd (W.1 15) 2 (nI (r_reads (W.1 13) n (W.1 14)).2.1)) (r_reads (W.1 13) n (W.1 14)).1) 4)) fd_X7_51 (rd_Model γ _) rfl dX7_order_5 ?_
  rw [st_4]
  refine v_sipush' X ks_m1001 dX7_order_8 ?_
  refine v_icmp_eq (tgt := 18) X dX7_order_11 (by decide) (fun q1 => ?_) (fun q1 => ?_)
  · have hg := (r_reads_b (W.1 13) h60 (W.1 14)).2 q1
    refine v_aload_n X rfl dX7_order_18 ?_
    refine v_getf X fd_X7_7 (rd_Model γ _) rfl dX7_order_19 ?_
    refine v_sipush' X ks_223 dX7_order_22 ?_
    refine v_iald' X (v := nI q) (rd_M γ _) (223) rfl (by omega) (by decide) ((vw_at (by omega)).trans hq) dX7_order_25 ?_
    refine v_aload_n X rfl dX7_order_26 ?_
    refine v_getf X (v := .int ((st (upd (W.1 15) 2 (nI (r_reads (W.1 13) n (W.1 14)).2.1)) (r_reads (W.1 13) n (W.1 14)).1) 2)) fd_X7_68 (rd_Model γ _) rfl dX7_order_27 ?_
    rw [st_o _ _ (by decide : (2 : Nat) ≠ 3) (by decide), pk_us]
    refine v_iadd' X (nI_add _ _) dX7_order_30 ?_
    refine v_bipush' X kb_10 dX7_order_31 ?_
    refine v_icmp_le_n (tgt := 40) X dX7_order_33 (by decide) (by omega) (by omega) (fun q2 => ?_) (fun q2 => ?_)
    · refine v_aload_n X rfl dX7_order_40 ?_
      refine v_callV (ci := 8) X mv_X7_124 (c_X7_keeps l γ _ u (by show (st (upd (W.1 15) 2 (nI (r_reads (W.1 13) n (W.1 14)).2.1)) (r_reads (W.1 13) n (W.1 14)).1) 0 = nI u; rw [st_o _ _ (by decide) (by decide), pk_un (by decide)]; exact hu) h6u) rfl rfl (rd_Model γ _) rfl ⟨Nat.le_of_ble_eq_true rfl, Nat.le_of_ble_eq_true rfl, Nat.le_of_ble_eq_true rfl, Nat.le_of_ble_eq_true rfl⟩ (Nat.le_of_ble_eq_true rfl) rfl dX7_order_41 rfl (det_v ?_)
      try simp (disch := decide) only [ws_11_10, ws_12_10, ws_12_11, ws_13_10, ws_13_11, ws_13_12, ws_14_10, ws_14_11, ws_14_12, ws_14_13, ws_15_10, ws_15_11, ws_15_12, ws_15_13, ws_15_14, wset_wset, ws_same, ws_ne, wh_ws]
      refine v_iconst' X kc_0 dX7_order_44 ?_
      refine v_istore_n X (Nat.le_of_ble_eq_true rfl) rfl dX7_order_45 ?_
      have lp46 : ∀ (m0 : Nat) (k : Nat), k ≤ 5 * (r_reads (W.1 13) n (W.1 14)).2.1 ∧ 5 * (r_reads (W.1 13) n (W.1 14)).2.1 + 1 ≤ k + m0 → V p l e { frames := 6, cells := 0, slots := 0, locals := 126 } s m args below meth c γ Q0 (rdw γ (wset (wset (wset (wset W 10 (s_cp (r_reads (W.1 13) n (W.1 14)).2.2 (W.1 10) (168 + 5 * q) k)) 11 (s_keepP (W.1 10) (W.1 11) u)) 14 (r_reads (W.1 13) n (W.1 14)).2.2) 15 (upd (st (upd (W.1 15) 2 (nI (r_reads (W.1 13) n (W.1 14)).2.1)) (r_reads (W.1 13) n (W.1 14)).1) 0 (nI (s_u u))))) 0 0 46 [some (.ref (γ.1 + 86)), some (.int (nI k))] [] := by
        intro m0
        induction m0 with
        | zero =>
          intro k hbd
          exact absurd hbd (by omega)
        | succ m0 ih =>
          intro k hbd
          refine v_iload_n X rfl dX7_order_46 ?_
          refine v_iconst' X kc_5 dX7_order_47 ?_
          refine v_aload_n X rfl dX7_order_48 ?_
          refine v_getf X (v := .int ((upd (st (upd (W.1 15) 2 (nI (r_reads (W.1 13) n (W.1 14)).2.1)) (r_reads (W.1 13) n (W.1 14)).1) 0 (nI (s_u u))) 2)) fd_X7_68 (rd_Model γ _) rfl dX7_order_49 ?_
          rw [pk_un (by decide : (2 : Nat) ≠ 0), st_o _ _ (by decide : (2 : Nat) ≠ 3) (by decide), pk_us]
          refine v_imul' X (pk_mul _ _) dX7_order_52 ?_
          refine v_icmp_ge_n (tgt := 89) X dX7_order_53 (by decide) (by omega) (by omega) (fun c_1 => ?_) (fun c_1 => ?_)
          · have hk : 5 * (r_reads (W.1 13) n (W.1 14)).2.1 = k := by omega
            subst hk
            refine v_aload_n X rfl dX7_order_89 ?_
            refine v_getf X fd_X7_7 (rd_Model γ _) rfl dX7_order_90 ?_
            refine v_sipush' X ks_223 dX7_order_93 ?_
            refine v_dup2 X rfl rfl dX7_order_96 ?_
            refine v_iald' X (v := nI q) (rd_M γ _) (223) rfl (by omega) (by decide) ((vw_at (by omega)).trans ((s_cp223 (W.1 10) _ (by omega)).trans hq)) dX7_order_97 ?_
            refine v_aload_n X rfl dX7_order_98 ?_
            refine v_getf X (v := .int ((upd (st (upd (W.1 15) 2 (nI (r_reads (W.1 13) n (W.1 14)).2.1)) (r_reads (W.1 13) n (W.1 14)).1) 0 (nI (s_u u))) 2)) fd_X7_68 (rd_Model γ _) rfl dX7_order_99 ?_
            rw [pk_un (by decide : (2 : Nat) ≠ 0), st_o _ _ (by decide : (2 : Nat) ≠ 3) (by decide), pk_us]
            refine v_iadd' X (nI_add _ _) dX7_order_102 ?_
            refine v_iast X (rd_M γ _) (223) rfl (by omega) (by decide) dX7_order_103 ?_
            refine v_eqh (uq_M γ _ (by omega) _) ?_
            try simp (disch := decide) only [ws_11_10, ws_12_10, ws_12_11, ws_13_10, ws_13_11, ws_13_12, ws_14_10, ws_14_11, ws_14_12, ws_14_13, ws_15_10, ws_15_11, ws_15_12, ws_15_13, ws_15_14, wset_wset, ws_same, ws_ne, wh_ws]
            refine v_aload_n X rfl dX7_order_104 ?_
            refine v_getf X (v := .int ((upd (st (upd (W.1 15) 2 (nI (r_reads (W.1 13) n (W.1 14)).2.1)) (r_reads (W.1 13) n (W.1 14)).1) 0 (nI (s_u u))) 2)) fd_X7_68 (rd_Model γ _) rfl dX7_order_105 ?_
            rw [pk_un (by decide : (2 : Nat) ≠ 0), st_o _ _ (by decide : (2 : Nat) ≠ 3) (by decide), pk_us]
            subst hQ0
            exact v_iret X rfl (Nat.le_of_ble_eq_true rfl) (Nat.le_of_ble_eq_true rfl) dX7_order_108 ⟨so_some (by first | rw [if_neg q1] | (rw [if_pos q1, if_pos q2]; try rfl) | rw [if_pos q1, if_neg (by omega)]), congrArg (rdw γ) (by first | rw [if_neg q1] | (rw [if_pos q1, if_pos q2]; try rfl) | rw [if_pos q1, if_neg (by omega)])⟩
          · refine v_aload_n X rfl dX7_order_56 ?_
            refine v_getf X fd_X7_7 (rd_Model γ _) rfl dX7_order_57 ?_
            refine v_sipush' X ks_168 dX7_order_60 ?_
            refine v_iconst' X kc_5 dX7_order_63 ?_
            refine v_aload_n X rfl dX7_order_64 ?_
            refine v_getf X fd_X7_7 (rd_Model γ _) rfl dX7_order_65 ?_
            refine v_sipush' X ks_223 dX7_order_68 ?_
            refine v_iald' X (v := nI q) (rd_M γ _) (223) rfl (by omega) (by decide) ((vw_at (by omega)).trans ((s_cp223 (W.1 10) _ (by omega)).trans hq)) dX7_order_71 ?_
            refine v_imul' X (pk_mul _ _) dX7_order_72 ?_
            refine v_iadd' X (nI_add _ _) dX7_order_73 ?_
            refine v_iload_n X rfl dX7_order_74 ?_
            refine v_iadd' X (nI_add _ _) dX7_order_75 ?_
            refine v_aload_n X rfl dX7_order_76 ?_
            refine v_getf X fd_X7_22 (rd_Model γ _) rfl dX7_order_77 ?_
            refine v_iload_n X rfl dX7_order_80 ?_
            refine v_iald' X (v := ((r_reads (W.1 13) n (W.1 14)).2.2 (k))) (rd_Read γ _) (k) rfl (by omega) (by decide) (vw_at (by omega)) dX7_order_81 ?_
            refine v_iast X (rd_M γ _) (((168 + (5 * q)) + k)) rfl (by omega) (by decide) dX7_order_82 ?_
            refine v_eqh (uq_M γ _ (by omega) _) ?_
            try simp (disch := decide) only [ws_11_10, ws_12_10, ws_12_11, ws_13_10, ws_13_11, ws_13_12, ws_14_10, ws_14_11, ws_14_12, ws_14_13, ws_15_10, ws_15_11, ws_15_12, ws_15_13, ws_15_14, wset_wset, ws_same, ws_ne, wh_ws]
            rw [s_cpS]
            refine v_iinc' X rfl rfl (nI_inc _) dX7_order_83 ?_
            refine v_goto (tgt := 46) X dX7_order_86 (by decide) ?_
            exact (ih (k + 1) ⟨by omega, by omega⟩)
      have hy := lp46 (5 * (r_reads (W.1 13) n (W.1 14)).2.1 + 1) 0 ⟨by omega, by omega⟩
      rw [s_cp0, wset_self] at hy
      exact (hy)
    · refine v_sipush' X ks_m1004 dX7_order_36 ?_
      subst hQ0
      exact v_iret X rfl (Nat.le_of_ble_eq_true rfl) (Nat.le_of_ble_eq_true rfl) dX7_order_39 ⟨so_some (by first | rw [if_neg q1] | (rw [if_pos q1, if_pos q2]; try rfl) | rw [if_pos q1, if_neg (by omega)]), congrArg (rdw γ) (by first | rw [if_neg q1] | (rw [if_pos q1, if_pos q2]; try rfl) | rw [if_pos q1, if_neg (by omega)])⟩
  · refine v_sipush' X ks_m1003 dX7_order_14 ?_
    subst hQ0
    exact v_iret X rfl (Nat.le_of_ble_eq_true rfl) (Nat.le_of_ble_eq_true rfl) dX7_order_17 ⟨so_some (by first | rw [if_neg q1] | (rw [if_pos q1, if_pos q2]; try rfl) | rw [if_pos q1, if_neg (by omega)]), congrArg (rdw γ) (by first | rw [if_neg q1] | (rw [if_pos q1, if_pos q2]; try rfl) | rw [if_pos q1, if_neg (by omega)])⟩
