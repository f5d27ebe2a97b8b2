theorem s_ltq {q : Nat} {x : Int32} (hq : q < 2 ^ 31) (h1 : ¬ x < 0) (h3 : ¬ nI q ≤ x) : ∃ j : Nat, j < q ∧ x = nI j := by
  obtain ⟨j, hj, rfl⟩ := nI_of h1
  exact ⟨j, Nat.not_le.mp fun z => h3 (Int32.le_iff_toInt_le.mpr (by rw [nI_toInt hq, nI_toInt (by omega)]; omega)), rfl⟩
theorem c_X7_second'' (l : Launch) (γ : Gm) (W : Wd) (cn : Nat) (hv : VM (W.1 10) cn) : Cr l γ yX7_second cX7_second 2 none 4 87 0 0 [.ref (γ.1 + 86)] (rdw γ W) (Det none (rdw γ (wset W 10 (q_second (W.1 10))))) := by
  obtain ⟨hcn, ⟨h1, h6⟩, q, hq, h10, ho⟩ := hv
  exact c_X7_second' l γ W cn q hcn h1 h6 hq h10 ho
theorem c_X7_isWagon'' (l : Launch) (γ : Gm) (W : Wd) (cn : Nat) (hv : VM (W.1 10) cn) (v : Int32) : Cr l γ yX7_isWagon cX7_isWagon 2 (some .boolean) 1 22 0 0 [.ref (γ.1 + 86), .int v] (rdw γ W) (Det (some (.int (bi (¬ v < nI 0 ∧ ¬ nI (cn - 1) < v)))) (rdw γ W)) := c_X7_isWagon' l γ W cn hv.1 hv.2.1.1 hv.2.1.2 v
theorem c_X7_inWagons' (l : Launch) (γ : Gm) (W : Wd) (cn : Nat) (hv : VM (W.1 10) cn) : Cr l γ yX7_inWagons cX7_inWagons 3 (some .int) 1 22 0 0 [.ref (γ.1 + 86)] (rdw γ W) (Det (some (.int (s_inW (W.1 10) cn))) (rdw γ W)) := c_X7_inWagons l γ W cn hv.1 hv.2.1.1 hv.2.1.2
set_option maxHeartbeats 4000000 in
set_option maxRecDepth 100000 in
theorem c_X7_pass (l : Launch) (γ : Gm) (W : Wd) (u : Nat) (hu : W.1 15 0 = nI u) (h6u : u ≤ 6) (cn : Nat) (hv : VM (W.1 10) cn) (x : Int32) : Cr l γ yX7_pass cX7_pass 3 (some .int) 5 108 0 0 [.ref (γ.1 + 86), .int x] (rdw γ W) (Det (some (.int (if ¬ x < nI 1 ∧ ¬ nI 200 < x then (if W.1 10 222 + x ≤ nI 9999 then (s_secs (W.1 10) x.toNatClampNeg 219) else (-1004)) else (-1002)))) (rdw γ (if ¬ x < nI 1 ∧ ¬ nI 200 < x then (if W.1 10 222 + x ≤ nI 9999 then (wset (wset (wset W 10 (s_secs (W.1 10) x.toNatClampNeg)) 11 (s_keepP (W.1 10) (W.1 11) u)) 15 (upd (W.1 15) 0 (nI (s_u u)))) else W) else W))) := by
  refine Cr_of [some (.ref (γ.1 + 86)), some (.int x), none] (by decide +kernel) (Nat.le_of_ble_eq_true rfl) rfl ?_
  intro p e s m args below meth c X
  refine v_q0 (fun Q0 hQ0 => ?_)
  refine v_iload_n X rfl dX7_pass_0 ?_
  refine v_iconst' X kc_1 dX7_pass_1 ?_
  refine v_sipush' X ks_200 dX7_pass_2 ?_
  refine v_callS X ms_X7_29 (c_X7_in l γ _ _ _ _) rfl ⟨Nat.le_of_ble_eq_true rfl, Nat.le_of_ble_eq_true rfl, Nat.le_of_ble_eq_true rfl, Nat.le_of_ble_eq_true rfl⟩ (Nat.le_of_ble_eq_true rfl) rfl dX7_pass_5 rfl (det_i ?_)
  refine v_if_ne_b (tgt := 15) X dX7_pass_8 (by decide) (fun q1 => ?_) (fun q1 => ?_)
  · refine v_aload_n X rfl dX7_pass_15 ?_
    refine v_getf X fd_X7_7 (rd_Model γ _) rfl dX7_pass_16 ?_
    refine v_sipush' X ks_222 dX7_pass_19 ?_
    refine v_iald' X (v := ((W.1 10) (222))) (rd_M γ _) (222) rfl (by omega) (by decide) (vw_at (by omega)) dX7_pass_22 ?_
    refine v_iload_n X rfl dX7_pass_23 ?_
    refine v_iadd X dX7_pass_24 ?_
    refine v_sipush' X ks_9999 dX7_pass_25 ?_
    refine v_icmp_le (tgt := 35) X dX7_pass_28 (by decide) (fun q2 => ?_) (fun q2 => ?_)
    · obtain ⟨j, hj1, hj, rfl⟩ := in_nat1 (by decide) (by decide) q1
      have ej : (nI j).toNatClampNeg = j := nI_clamp (by omega)
      refine v_aload_n X rfl dX7_pass_35 ?_
      refine v_callV (ci := 8) X mv_X7_124 (c_X7_keeps l γ _ u (by exact hu) h6u) rfl rfl (rd_Model γ _) rfl ⟨Nat.le_of_ble_eq_true rfl, Nat.le_of_ble_eq_true rfl, Nat.le_of_ble_eq_true rfl, Nat.le_of_ble_eq_true rfl⟩ (Nat.le_of_ble_eq_true rfl) rfl dX7_pass_36 rfl (det_v ?_)
      try simp (disch := decide) only [ws_11_10, ws_12_10, ws_12_11, ws_13_10, ws_13_11, ws_13_12, ws_14_10, ws_14_11, ws_14_12, ws_14_13, ws_15_10, ws_15_11, ws_15_12, ws_15_13, ws_15_14, wset_wset, ws_same, ws_ne, wh_ws]
      refine v_iconst' X kc_0 dX7_pass_39 ?_
      refine v_istore_n X (Nat.le_of_ble_eq_true rfl) rfl dX7_pass_40 ?_
      have lp41 : ∀ (n : Nat) (k : Nat), k ≤ j ∧ j + 1 ≤ k + n → V p l e { frames := 5, cells := 0, slots := 0, locals := 108 } s m args below meth c γ Q0 (rdw γ ((wset (wset (wset W 10 (s_secs (W.1 10) k)) 11 (s_keepP (W.1 10) (W.1 11) u)) 15 (upd (W.1 15) 0 (nI (s_u u)))))) 0 0 41 [some (.ref (γ.1 + 86)), some (.int (nI j)), some (.int (nI k))] [] := by
        intro n
        induction n with
        | zero =>
          intro k hbd
          exact absurd hbd (by omega)
        | succ n ih =>
          intro k hbd
          refine v_iload_n X rfl dX7_pass_41 ?_
          refine v_iload_n X rfl dX7_pass_42 ?_
          refine v_icmp_ge_n (tgt := 56) X dX7_pass_43 (by decide) (by omega) (by omega) (fun c_1 => ?_) (fun c_1 => ?_)
          · have hk : k = j := by omega
            subst hk
            refine v_aload_n X rfl dX7_pass_56 ?_
            refine v_getf X fd_X7_7 (rd_Model γ _) rfl dX7_pass_57 ?_
            refine v_sipush' X ks_219 dX7_pass_60 ?_
            refine v_iald' X (v := ((s_secs (W.1 10) k) (219))) (rd_M γ _) (219) rfl (by omega) (by decide) (vw_at (by omega)) dX7_pass_63 ?_
            subst hQ0
            exact v_iret X rfl (Nat.le_of_ble_eq_true rfl) (Nat.le_of_ble_eq_true rfl) dX7_pass_64 ⟨so_some (by first | rw [if_neg q1] | rw [if_pos q1, if_neg q2] | rw [if_pos q1, ej, if_pos q2]), congrArg (rdw γ) (by first | rw [if_neg q1] | rw [if_pos q1, if_neg q2] | rw [if_pos q1, ej, if_pos q2])⟩
          · refine v_aload_n X rfl dX7_pass_46 ?_
            refine v_callV (ci := 8) X mv_X7_133 (c_X7_second'' l γ _ cn (by exact VM_secs hv k)) rfl rfl (rd_Model γ _) rfl ⟨Nat.le_of_ble_eq_true rfl, Nat.le_of_ble_eq_true rfl, Nat.le_of_ble_eq_true rfl, Nat.le_of_ble_eq_true rfl⟩ (Nat.le_of_ble_eq_true rfl) rfl dX7_pass_47 rfl (det_v ?_)
            try simp (disch := decide) only [ws_11_10, ws_12_10, ws_12_11, ws_13_10, ws_13_11, ws_13_12, ws_14_10, ws_14_11, ws_14_12, ws_14_13, ws_15_10, ws_15_11, ws_15_12, ws_15_13, ws_15_14, wset_wset, ws_same, ws_ne, wh_ws]
            refine v_iinc' X rfl rfl (nI_inc _) dX7_pass_50 ?_
            refine v_goto (tgt := 41) X dX7_pass_53 (by decide) ?_
            exact (ih (k + 1) ⟨by omega, by omega⟩)
      have hy := lp41 (j + 1) 0 ⟨by omega, by omega⟩
      rw [show s_secs (W.1 10) 0 = W.1 10 from rfl, wset_self] at hy
      exact (hy)
    · refine v_sipush' X ks_m1004 dX7_pass_31 ?_
      subst hQ0
      exact v_iret X rfl (Nat.le_of_ble_eq_true rfl) (Nat.le_of_ble_eq_true rfl) dX7_pass_34 ⟨so_some (by first | rw [if_neg q1] | rw [if_pos q1, if_neg q2] | rw [if_pos q1, ej, if_pos q2]), congrArg (rdw γ) (by first | rw [if_neg q1] | rw [if_pos q1, if_neg q2] | rw [if_pos q1, ej, if_pos q2])⟩
  · refine v_sipush' X ks_m1002 dX7_pass_11 ?_
    subst hQ0
    exact v_iret X rfl (Nat.le_of_ble_eq_true rfl) (Nat.le_of_ble_eq_true rfl) dX7_pass_14 ⟨so_some (by first | rw [if_neg q1] | rw [if_pos q1, if_neg q2] | rw [if_pos q1, ej, if_pos q2]), congrArg (rdw γ) (by first | rw [if_neg q1] | rw [if_pos q1, if_neg q2] | rw [if_pos q1, ej, if_pos q2])⟩
set_option maxHeartbeats 4000000 in
set_option maxRecDepth 100000 in
theorem c_X7_scrape (l : Launch) (γ : Gm) (W : Wd) (u : Nat) (hu : W.1 15 0 = nI u) (h6u : u ≤ 6) (x y z : Int32) : Cr l γ yX7_scrape cX7_scrape 5 (some .int) 2 42 0 0 [.ref (γ.1 + 86), .int x, .int y, .int z] (rdw γ W) (Det (some (.int (if ¬ x < nI 0 ∧ ¬ nI 39 < x then (if ¬ y < nI 0 ∧ ¬ nI 2 < y then (if ¬ z < nI 1 ∧ ¬ nI 60 < z then (s_min z (W.1 10 (3 * x.toNatClampNeg + y.toNatClampNeg))) else (-1002)) else (-1002)) else (-1002)))) (rdw γ (if ¬ x < nI 0 ∧ ¬ nI 39 < x then (if ¬ y < nI 0 ∧ ¬ nI 2 < y then (if ¬ z < nI 1 ∧ ¬ nI 60 < z then (wset (wset (wset W 10 (q_scr (W.1 10) x.toNatClampNeg y.toNatClampNeg (s_min z (W.1 10 (3 * x.toNatClampNeg + y.toNatClampNeg))))) 11 (s_keepP (W.1 10) (W.1 11) u)) 15 (upd (W.1 15) 0 (nI (s_u u)))) else W) else W) else W))) := by
  refine Cr_of [some (.ref (γ.1 + 86)), some (.int x), some (.int y), some (.int z), none] (by decide +kernel) (Nat.le_of_ble_eq_true rfl) rfl ?_
  intro p e s m args below meth c X
  refine v_q0 (fun Q0 hQ0 => ?_)
  refine v_iload_n X rfl dX7_scrape_0 ?_
  refine v_callS X ms_X7_105 (c_X7_isCell l γ _ _) rfl ⟨Nat.le_of_ble_eq_true rfl, Nat.le_of_ble_eq_true rfl, Nat.le_of_ble_eq_true rfl, Nat.le_of_ble_eq_true rfl⟩ (Nat.le_of_ble_eq_true rfl) rfl dX7_scrape_1 rfl (det_i ?_)
  refine v_if_eq_b (tgt := 24) X dX7_scrape_4 (by decide) (fun q1 => ?_) (fun q1 => ?_)
  · refine v_sipush' X ks_m1002 dX7_scrape_24 ?_
    subst hQ0
    exact v_iret X rfl (Nat.le_of_ble_eq_true rfl) (Nat.le_of_ble_eq_true rfl) dX7_scrape_27 ⟨so_some (by first | rw [if_neg q1] | rw [if_pos q1, if_neg q2] | rw [if_pos q1, if_pos q2, if_neg q3] | (rw [if_pos q1, if_pos q2, if_pos q3, ej, ei]; rfl)), congrArg (rdw γ) (by first | rw [if_neg q1] | rw [if_pos q1, if_neg q2] | rw [if_pos q1, if_pos q2, if_neg q3] | (rw [if_pos q1, if_pos q2, if_pos q3, ej, ei]; rfl))⟩
  · obtain ⟨j, hj, rfl⟩ := in_nat (by decide) q1
    have ej : (nI j).toNatClampNeg = j := nI_clamp (by omega)
    refine v_iload_n X rfl dX7_scrape_7 ?_
    refine v_callS X ms_X7_130 (c_X7_isStrip l γ _ _) rfl ⟨Nat.le_of_ble_eq_true rfl, Nat.le_of_ble_eq_true rfl, Nat.le_of_ble_eq_true rfl, Nat.le_of_ble_eq_true rfl⟩ (Nat.le_of_ble_eq_true rfl) rfl dX7_scrape_8 rfl (det_i ?_)
    refine v_if_eq_b (tgt := 24) X dX7_scrape_11 (by decide) (fun q2 => ?_) (fun q2 => ?_)
    · refine v_sipush' X ks_m1002 dX7_scrape_24 ?_
      subst hQ0
      exact v_iret X rfl (Nat.le_of_ble_eq_true rfl) (Nat.le_of_ble_eq_true rfl) dX7_scrape_27 ⟨so_some (by first | rw [if_neg q1] | rw [if_pos q1, if_neg q2] | rw [if_pos q1, if_pos q2, if_neg q3] | (rw [if_pos q1, if_pos q2, if_pos q3, ej, ei]; rfl)), congrArg (rdw γ) (by first | rw [if_neg q1] | rw [if_pos q1, if_neg q2] | rw [if_pos q1, if_pos q2, if_neg q3] | (rw [if_pos q1, if_pos q2, if_pos q3, ej, ei]; rfl))⟩
    · obtain ⟨i, hi, rfl⟩ := in_nat (by decide) q2
      have ei : (nI i).toNatClampNeg = i := nI_clamp (by omega)
      refine v_iload_n X rfl dX7_scrape_14 ?_
      refine v_iconst' X kc_1 dX7_scrape_15 ?_
      refine v_bipush' X kb_60 dX7_scrape_16 ?_
      refine v_callS X ms_X7_29 (c_X7_in l γ _ _ _ _) rfl ⟨Nat.le_of_ble_eq_true rfl, Nat.le_of_ble_eq_true rfl, Nat.le_of_ble_eq_true rfl, Nat.le_of_ble_eq_true rfl⟩ (Nat.le_of_ble_eq_true rfl) rfl dX7_scrape_18 rfl (det_i ?_)
      refine v_if_ne_b (tgt := 28) X dX7_scrape_21 (by decide) (fun q3 => ?_) (fun q3 => ?_)
      · refine v_aload_n X rfl dX7_scrape_28 ?_
        refine v_callV (ci := 8) X mv_X7_124 (c_X7_keeps l γ _ u (by exact hu) h6u) rfl rfl (rd_Model γ _) rfl ⟨Nat.le_of_ble_eq_true rfl, Nat.le_of_ble_eq_true rfl, Nat.le_of_ble_eq_true rfl, Nat.le_of_ble_eq_true rfl⟩ (Nat.le_of_ble_eq_true rfl) rfl dX7_scrape_29 rfl (det_v ?_)
        try simp (disch := decide) only [ws_11_10, ws_12_10, ws_12_11, ws_13_10, ws_13_11, ws_13_12, ws_14_10, ws_14_11, ws_14_12, ws_14_13, ws_15_10, ws_15_11, ws_15_12, ws_15_13, ws_15_14, wset_wset, ws_same, ws_ne, wh_ws]
        refine v_iload_n X rfl dX7_scrape_32 ?_
        refine v_aload_n X rfl dX7_scrape_33 ?_
        refine v_getf X fd_X7_7 (rd_Model γ _) rfl dX7_scrape_34 ?_
        refine v_iconst' X kc_3 dX7_scrape_37 ?_
        refine v_iload_n X rfl dX7_scrape_38 ?_
        refine v_imul' X (pk_mul _ _) dX7_scrape_39 ?_
        refine v_iload_n X rfl dX7_scrape_40 ?_
        refine v_iadd' X (nI_add _ _) dX7_scrape_41 ?_
        refine v_iald' X (v := ((W.1 10) (((3 * j) + i)))) (rd_M γ _) (((3 * j) + i)) rfl (by omega) (by decide) (vw_at (by omega)) dX7_scrape_42 ?_
        refine v_callS X ms_X7_102 (c_X7_least l γ _ _ _) rfl ⟨Nat.le_of_ble_eq_true rfl, Nat.le_of_ble_eq_true rfl, Nat.le_of_ble_eq_true rfl, Nat.le_of_ble_eq_true rfl⟩ (Nat.le_of_ble_eq_true rfl) rfl dX7_scrape_43 rfl (det_i ?_)
        refine v_istore X (Nat.le_of_ble_eq_true rfl) rfl dX7_scrape_46 ?_
        refine v_aload_n X rfl dX7_scrape_48 ?_
        refine v_getf X fd_X7_7 (rd_Model γ _) rfl dX7_scrape_49 ?_
        refine v_iconst' X kc_3 dX7_scrape_52 ?_
        refine v_iload_n X rfl dX7_scrape_53 ?_
        refine v_imul' X (pk_mul _ _) dX7_scrape_54 ?_
        refine v_iload_n X rfl dX7_scrape_55 ?_
        refine v_iadd' X (nI_add _ _) dX7_scrape_56 ?_
        refine v_dup2 X rfl rfl dX7_scrape_57 ?_
        refine v_iald' X (v := ((W.1 10) (((3 * j) + i)))) (rd_M γ _) (((3 * j) + i)) rfl (by omega) (by decide) (vw_at (by omega)) dX7_scrape_58 ?_
        refine v_iload X rfl dX7_scrape_59 ?_
        refine v_isub X dX7_scrape_61 ?_
        refine v_iast X (rd_M γ _) (((3 * j) + i)) rfl (by omega) (by decide) dX7_scrape_62 ?_
        refine v_eqh (uq_M γ _ (by omega) _) ?_
        try simp (disch := decide) only [ws_11_10, ws_12_10, ws_12_11, ws_13_10, ws_13_11, ws_13_12, ws_14_10, ws_14_11, ws_14_12, ws_14_13, ws_15_10, ws_15_11, ws_15_12, ws_15_13, ws_15_14, wset_wset, ws_same, ws_ne, wh_ws]
        refine v_aload_n X rfl dX7_scrape_63 ?_
        refine v_getf X fd_X7_7 (rd_Model γ _) rfl dX7_scrape_64 ?_
        refine v_sipush' X ks_227 dX7_scrape_67 ?_
        refine v_dup2 X rfl rfl dX7_scrape_70 ?_
        refine v_iald' X (v := ((upd (W.1 10) (((3 * j) + i)) (((W.1 10) (((3 * j) + i))) - (if z < ((W.1 10) (((3 * j) + i))) then z else ((W.1 10) (((3 * j) + i)))))) (227))) (rd_M γ _) (227) rfl (by omega) (by decide) (vw_at (by omega)) dX7_scrape_71 ?_
        refine v_iload X rfl dX7_scrape_72 ?_
        refine v_iadd X dX7_scrape_74 ?_
        refine v_iast X (rd_M γ _) (227) rfl (by omega) (by decide) dX7_scrape_75 ?_
        refine v_eqh (uq_M γ _ (by omega) _) ?_
        try simp (disch := decide) only [ws_11_10, ws_12_10, ws_12_11, ws_13_10, ws_13_11, ws_13_12, ws_14_10, ws_14_11, ws_14_12, ws_14_13, ws_15_10, ws_15_11, ws_15_12, ws_15_13, ws_15_14, wset_wset, ws_same, ws_ne, wh_ws]
        refine v_iload X rfl dX7_scrape_76 ?_
        subst hQ0
        exact v_iret X rfl (Nat.le_of_ble_eq_true rfl) (Nat.le_of_ble_eq_true rfl) dX7_scrape_78 ⟨so_some (by first | rw [if_neg q1] | rw [if_pos q1, if_neg q2] | rw [if_pos q1, if_pos q2, if_neg q3] | (rw [if_pos q1, if_pos q2, if_pos q3, ej, ei]; rfl)), congrArg (rdw γ) (by first | rw [if_neg q1] | rw [if_pos q1, if_neg q2] | rw [if_pos q1, if_pos q2, if_neg q3] | (rw [if_pos q1, if_pos q2, if_pos q3, ej, ei]; rfl))⟩
      · refine v_sipush' X ks_m1002 dX7_scrape_24 ?_
        subst hQ0
        exact v_iret X rfl (Nat.le_of_ble_eq_true rfl) (Nat.le_of_ble_eq_true rfl) dX7_scrape_27 ⟨so_some (by first | rw [if_neg q1] | rw [if_pos q1, if_neg q2] | rw [if_pos q1, if_pos q2, if_neg q3] | (rw [if_pos q1, if_pos q2, if_pos q3, ej, ei]; rfl)), congrArg (rdw γ) (by first | rw [if_neg q1] | rw [if_pos q1, if_neg q2] | rw [if_pos q1, if_pos q2, if_neg q3] | (rw [if_pos q1, if_pos q2, if_pos q3, ej, ei]; rfl))⟩
set_option maxHeartbeats 4000000 in
set_option maxRecDepth 100000 in
theorem c_X7_wagon (l : Launch) (γ : Gm) (W : Wd) (cn : Nat) (hv : VM (W.1 10) cn) (x z : Int32) : Cr l γ yX7_wagon cX7_wagon 5 (some .int) 2 43 0 0 [.ref (γ.1 + 86), .int x, .int z] (rdw γ W) (Det (some (.int (s_wag (W.1 10) cn x z))) (rdw γ W)) := by
  have hc6 : cn ≤ 6 := hv.2.1.2
  refine Cr_of [some (.ref (γ.1 + 86)), some (.int x), some (.int z), none, none] (by decide +kernel) (Nat.le_of_ble_eq_true rfl) rfl ?_
  intro p e s m args below meth c X
  refine v_q0 (fun Q0 hQ0 => ?_)
  refine v_aload_n X rfl dX7_wagon_0 ?_
  refine v_iload_n X rfl dX7_wagon_1 ?_
  refine v_callV (ci := 8) X mv_X7_86 (c_X7_isWagon'' l γ _ cn (by exact hv) _) rfl rfl (rd_Model γ _) rfl ⟨Nat.le_of_ble_eq_true rfl, Nat.le_of_ble_eq_true rfl, Nat.le_of_ble_eq_true rfl, Nat.le_of_ble_eq_true rfl⟩ (Nat.le_of_ble_eq_true rfl) rfl dX7_wagon_2 rfl (det_i ?_)
  refine v_if_ne_b (tgt := 12) X dX7_wagon_5 (by decide) (fun q1 => ?_) (fun q1 => ?_)
  · obtain ⟨j, hj, rfl⟩ := in_nat (by omega) q1
    have ej : (nI j).toNatClampNeg = j := nI_clamp (by omega)
    refine v_iload_n X rfl dX7_wagon_12 ?_
    by_cases hsw : ¬ z < nI 0 ∧ ¬ nI 4 < z
    · obtain ⟨jj, hjj, rfl⟩ := in_nat (by decide) hsw
      rcases (by omega : jj = 0 ∨ jj = 1 ∨ jj = 2 ∨ jj = 3 ∨ jj = 4) with rfl | rfl | rfl | rfl | rfl
      · refine v_tableIn (tgt := 48) (off := 35) X dX7_wagon_13 (by decide) (by decide) (by decide) (by decide) ?_
        refine v_aload_n X rfl dX7_wagon_48 ?_
        refine v_iload_n X rfl dX7_wagon_49 ?_
        refine v_iconst' X kc_0 dX7_wagon_50 ?_
        refine v_callV (ci := 8) X mv_X7_90 (c_X7_of' l γ _ j 0 (by omega)) rfl rfl (rd_Model γ _) rfl ⟨Nat.le_of_ble_eq_true rfl, Nat.le_of_ble_eq_true rfl, Nat.le_of_ble_eq_true rfl, Nat.le_of_ble_eq_true rfl⟩ (Nat.le_of_ble_eq_true rfl) rfl dX7_wagon_51 rfl (det_i ?_)
        try simp (disch := decide) only [ws_11_10, ws_12_10, ws_12_11, ws_13_10, ws_13_11, ws_13_12, ws_14_10, ws_14_11, ws_14_12, ws_14_13, ws_15_10, ws_15_11, ws_15_12, ws_15_13, ws_15_14, wset_wset, ws_same, ws_ne, wh_ws]
        subst hQ0
        exact v_iret X rfl (Nat.le_of_ble_eq_true rfl) (Nat.le_of_ble_eq_true rfl) dX7_wagon_54 ⟨so_some (by unfold s_wag; first | rw [if_neg q1] | (rw [if_pos q1, if_pos hsw, ej, nI_clamp (by decide)]; rfl) | rw [if_pos q1, if_neg hsw]), rfl⟩
      · refine v_tableIn (tgt := 55) (off := 42) X dX7_wagon_13 (by decide) (by decide) (by decide) (by decide) ?_
        refine v_aload_n X rfl dX7_wagon_55 ?_
        refine v_getf X fd_X7_7 (rd_Model γ _) rfl dX7_wagon_56 ?_
        refine v_sipush' X ks_219 dX7_wagon_59 ?_
        refine v_iald' X (v := ((W.1 10) (219))) (rd_M γ _) (219) rfl (by omega) (by decide) (vw_at (by omega)) dX7_wagon_62 ?_
        refine v_iconst' X kc_4 dX7_wagon_63 ?_
        refine v_iload_n X rfl dX7_wagon_64 ?_
        refine v_imul' X (pk_mul _ _) dX7_wagon_65 ?_
        refine v_isub X dX7_wagon_66 ?_
        subst hQ0
        exact v_iret X rfl (Nat.le_of_ble_eq_true rfl) (Nat.le_of_ble_eq_true rfl) dX7_wagon_67 ⟨so_some (by unfold s_wag; first | rw [if_neg q1] | (rw [if_pos q1, if_pos hsw, ej, nI_clamp (by decide)]; rfl) | rw [if_pos q1, if_neg hsw]), rfl⟩
      · refine v_tableIn (tgt := 68) (off := 55) X dX7_wagon_13 (by decide) (by decide) (by decide) (by decide) ?_
        refine v_aload_n X rfl dX7_wagon_68 ?_
        refine v_iload_n X rfl dX7_wagon_69 ?_
        refine v_iconst' X kc_2 dX7_wagon_70 ?_
        refine v_callV (ci := 8) X mv_X7_90 (c_X7_of' l γ _ j 2 (by omega)) rfl rfl (rd_Model γ _) rfl ⟨Nat.le_of_ble_eq_true rfl, Nat.le_of_ble_eq_true rfl, Nat.le_of_ble_eq_true rfl, Nat.le_of_ble_eq_true rfl⟩ (Nat.le_of_ble_eq_true rfl) rfl dX7_wagon_71 rfl (det_i ?_)
        try simp (disch := decide) only [ws_11_10, ws_12_10, ws_12_11, ws_13_10, ws_13_11, ws_13_12, ws_14_10, ws_14_11, ws_14_12, ws_14_13, ws_15_10, ws_15_11, ws_15_12, ws_15_13, ws_15_14, wset_wset, ws_same, ws_ne, wh_ws]
        refine v_aload_n X rfl dX7_wagon_74 ?_
        refine v_iload_n X rfl dX7_wagon_75 ?_
        refine v_iconst' X kc_3 dX7_wagon_76 ?_
        refine v_callV (ci := 8) X mv_X7_90 (c_X7_of' l γ _ j 3 (by omega)) rfl rfl (rd_Model γ _) rfl ⟨Nat.le_of_ble_eq_true rfl, Nat.le_of_ble_eq_true rfl, Nat.le_of_ble_eq_true rfl, Nat.le_of_ble_eq_true rfl⟩ (Nat.le_of_ble_eq_true rfl) rfl dX7_wagon_77 rfl (det_i ?_)
        try simp (disch := decide) only [ws_11_10, ws_12_10, ws_12_11, ws_13_10, ws_13_11, ws_13_12, ws_14_10, ws_14_11, ws_14_12, ws_14_13, ws_15_10, ws_15_11, ws_15_12, ws_15_13, ws_15_14, wset_wset, ws_same, ws_ne, wh_ws]
        refine v_iadd X dX7_wagon_80 ?_
        refine v_aload_n X rfl dX7_wagon_81 ?_
        refine v_iload_n X rfl dX7_wagon_82 ?_
        refine v_iconst' X kc_4 dX7_wagon_83 ?_
        refine v_callV (ci := 8) X mv_X7_90 (c_X7_of' l γ _ j 4 (by omega)) rfl rfl (rd_Model γ _) rfl ⟨Nat.le_of_ble_eq_true rfl, Nat.le_of_ble_eq_true rfl, Nat.le_of_ble_eq_true rfl, Nat.le_of_ble_eq_true rfl⟩ (Nat.le_of_ble_eq_true rfl) rfl dX7_wagon_84 rfl (det_i ?_)
        try simp (disch := decide) only [ws_11_10, ws_12_10, ws_12_11, ws_13_10, ws_13_11, ws_13_12, ws_14_10, ws_14_11, ws_14_12, ws_14_13, ws_15_10, ws_15_11, ws_15_12, ws_15_13, ws_15_14, wset_wset, ws_same, ws_ne, wh_ws]
        refine v_iadd X dX7_wagon_87 ?_
        subst hQ0
        exact v_iret X rfl (Nat.le_of_ble_eq_true rfl) (Nat.le_of_ble_eq_true rfl) dX7_wagon_88 ⟨so_some (by unfold s_wag; first | rw [if_neg q1] | (rw [if_pos q1, if_pos hsw, ej, nI_clamp (by decide)]; rfl) | rw [if_pos q1, if_neg hsw]), rfl⟩
      · refine v_tableIn (tgt := 89) (off := 76) X dX7_wagon_13 (by decide) (by decide) (by decide) (by decide) ?_
        refine v_iconst' X kc_0 dX7_wagon_89 ?_
        refine v_istore_n X (Nat.le_of_ble_eq_true rfl) rfl dX7_wagon_90 ?_
        refine v_iconst' X kc_0 dX7_wagon_91 ?_
        refine v_istore X (Nat.le_of_ble_eq_true rfl) rfl dX7_wagon_92 ?_
        have lp94 : ∀ (n : Nat) (k : Nat), k ≤ 3 ∧ 4 ≤ k + n → V p l e { frames := 2, cells := 0, slots := 0, locals := 43 } s m args below meth c γ Q0 (rdw γ W) 0 0 94 [some (.ref (γ.1 + 86)), some (.int (nI j)), some (.int (nI 3)), some (.int (s_cl3 (W.1 10) j k)), some (.int (nI k))] [] := by
          intro n
          induction n with
          | zero =>
            intro k hbd
            exact absurd hbd (by omega)
          | succ n ih =>
            intro k hbd
            refine v_iload X rfl dX7_wagon_94 ?_
            refine v_iconst' X kc_3 dX7_wagon_96 ?_
            refine v_icmp_ge_n (tgt := 129) X dX7_wagon_97 (by decide) (by omega) (by omega) (fun c_8 => ?_) (fun c_8 => ?_)
            · have hk : k = 3 := by omega
              subst hk
              refine v_iload_n X rfl dX7_wagon_129 ?_
              subst hQ0
              exact v_iret X rfl (Nat.le_of_ble_eq_true rfl) (Nat.le_of_ble_eq_true rfl) dX7_wagon_130 ⟨so_some (by unfold s_wag; first | rw [if_neg q1] | (rw [if_pos q1, if_pos hsw, ej, nI_clamp (by decide)]; rfl) | rw [if_pos q1, if_neg hsw]), rfl⟩
            · refine v_iload_n X rfl dX7_wagon_100 ?_
              refine v_aload_n X rfl dX7_wagon_101 ?_
              refine v_iload_n X rfl dX7_wagon_102 ?_
              refine v_iconst' X kc_5 dX7_wagon_103 ?_
              refine v_iload X rfl dX7_wagon_104 ?_
              refine v_iadd' X (nI_add _ _) dX7_wagon_106 ?_
              refine v_callV (ci := 8) X mv_X7_90 (c_X7_of' l γ _ j ((5 + k)) (by omega)) rfl rfl (rd_Model γ _) rfl ⟨Nat.le_of_ble_eq_true rfl, Nat.le_of_ble_eq_true rfl, Nat.le_of_ble_eq_true rfl, Nat.le_of_ble_eq_true rfl⟩ (Nat.le_of_ble_eq_true rfl) rfl dX7_wagon_107 rfl (det_i ?_)
              try simp (disch := decide) only [ws_11_10, ws_12_10, ws_12_11, ws_13_10, ws_13_11, ws_13_12, ws_14_10, ws_14_11, ws_14_12, ws_14_13, ws_15_10, ws_15_11, ws_15_12, ws_15_13, ws_15_14, wset_wset, ws_same, ws_ne, wh_ws]
              refine v_sipush' X ks_m1001 dX7_wagon_110 ?_
              refine v_icmp_ne (tgt := 120) X dX7_wagon_113 (by decide) (fun c_9 => ?_) (fun c_9 => ?_)
              · have hs1 := s_cl3N (M := W.1 10) (a := j) (n := k) c_9
                refine v_iconst' X kc_1 dX7_wagon_120 ?_
                refine v_iadd X dX7_wagon_121 ?_
                refine v_istore_n X (Nat.le_of_ble_eq_true rfl) rfl dX7_wagon_122 ?_
                refine v_iinc' X rfl rfl (nI_inc _) dX7_wagon_123 ?_
                refine v_goto (tgt := 94) X dX7_wagon_126 (by decide) ?_
                have hy := ih (k + 1) ⟨by omega, by omega⟩
                rw [hs1] at hy
                exact (hy)
              · have hs1 := s_cl3P (M := W.1 10) (a := j) (n := k) (by first | exact c_9 | exact Decidable.not_not.mp c_9)
                refine v_iconst' X kc_0 dX7_wagon_116 ?_
                refine v_goto (tgt := 121) X dX7_wagon_117 (by decide) ?_
                refine v_iadd X dX7_wagon_121 ?_
                refine v_istore_n X (Nat.le_of_ble_eq_true rfl) rfl dX7_wagon_122 ?_
                refine v_iinc' X rfl rfl (nI_inc _) dX7_wagon_123 ?_
                refine v_goto (tgt := 94) X dX7_wagon_126 (by decide) ?_
                have hy := ih (k + 1) ⟨by omega, by omega⟩
                rw [hs1] at hy
                exact (hy)
        exact (lp94 4 0 ⟨by omega, by omega⟩)
      · refine v_tableIn (tgt := 131) (off := 118) X dX7_wagon_13 (by decide) (by decide) (by decide) (by decide) ?_
        refine v_aload_n X rfl dX7_wagon_131 ?_
        refine v_iload_n X rfl dX7_wagon_132 ?_
        refine v_iconst' X kc_1 dX7_wagon_133 ?_
        refine v_callV (ci := 8) X mv_X7_90 (c_X7_of' l γ _ j 1 (by omega)) rfl rfl (rd_Model γ _) rfl ⟨Nat.le_of_ble_eq_true rfl, Nat.le_of_ble_eq_true rfl, Nat.le_of_ble_eq_true rfl, Nat.le_of_ble_eq_true rfl⟩ (Nat.le_of_ble_eq_true rfl) rfl dX7_wagon_134 rfl (det_i ?_)
        try simp (disch := decide) only [ws_11_10, ws_12_10, ws_12_11, ws_13_10, ws_13_11, ws_13_12, ws_14_10, ws_14_11, ws_14_12, ws_14_13, ws_15_10, ws_15_11, ws_15_12, ws_15_13, ws_15_14, wset_wset, ws_same, ws_ne, wh_ws]
        subst hQ0
        exact v_iret X rfl (Nat.le_of_ble_eq_true rfl) (Nat.le_of_ble_eq_true rfl) dX7_wagon_137 ⟨so_some (by unfold s_wag; first | rw [if_neg q1] | (rw [if_pos q1, if_pos hsw, ej, nI_clamp (by decide)]; rfl) | rw [if_pos q1, if_neg hsw]), rfl⟩
    · refine v_tableOut (tgt := 138) X dX7_wagon_13 (sw_out (by decide) hsw) (by decide) ?_
      refine v_sipush' X ks_m1002 dX7_wagon_138 ?_
      subst hQ0
      exact v_iret X rfl (Nat.le_of_ble_eq_true rfl) (Nat.le_of_ble_eq_true rfl) dX7_wagon_141 ⟨so_some (by unfold s_wag; first | rw [if_neg q1] | (rw [if_pos q1, if_pos hsw, ej, nI_clamp (by decide)]; rfl) | rw [if_pos q1, if_neg hsw]), rfl⟩
  · refine v_sipush' X ks_m1002 dX7_wagon_8 ?_
    subst hQ0
    exact v_iret X rfl (Nat.le_of_ble_eq_true rfl) (Nat.le_of_ble_eq_true rfl) dX7_wagon_11 ⟨so_some (by unfold s_wag; first | rw [if_neg q1] | (rw [if_pos q1, if_pos hsw, ej, nI_clamp (by decide)]; rfl) | rw [if_pos q1, if_neg hsw]), rfl⟩
set_option maxHeartbeats 4000000 in
set_option maxRecDepth 100000 in
theorem c_X7_doorOf (l : Launch) (γ : Gm) (W : Wd) (cn : Nat) (hv : VM (W.1 10) cn) (x y z : Int32) : Cr l γ yX7_doorOf cX7_doorOf 4 (some .int) 2 43 0 0 [.ref (γ.1 + 86), .int x, .int y, .int z] (rdw γ W) (Det (some (.int (s_door (W.1 10) cn x y z))) (rdw γ W)) := by
  have hc6 : cn ≤ 6 := hv.2.1.2
  refine Cr_of [some (.ref (γ.1 + 86)), some (.int x), some (.int y), some (.int z)] (by decide +kernel) (Nat.le_of_ble_eq_true rfl) rfl ?_
  intro p e s m args below meth c X
  refine v_q0 (fun Q0 hQ0 => ?_)
  refine v_aload_n X rfl dX7_doorOf_0 ?_
  refine v_iload_n X rfl dX7_doorOf_1 ?_
  refine v_callV (ci := 8) X mv_X7_86 (c_X7_isWagon'' l γ _ cn (by exact hv) _) rfl rfl (rd_Model γ _) rfl ⟨Nat.le_of_ble_eq_true rfl, Nat.le_of_ble_eq_true rfl, Nat.le_of_ble_eq_true rfl, Nat.le_of_ble_eq_true rfl⟩ (Nat.le_of_ble_eq_true rfl) rfl dX7_doorOf_2 rfl (det_i ?_)
  refine v_if_eq_b (tgt := 24) X dX7_doorOf_5 (by decide) (fun q1 => ?_) (fun q1 => ?_)
  · refine v_sipush' X ks_m1002 dX7_doorOf_24 ?_
    subst hQ0
    exact v_iret X rfl (Nat.le_of_ble_eq_true rfl) (Nat.le_of_ble_eq_true rfl) dX7_doorOf_27 ⟨so_some (by unfold s_door; first | rw [if_neg q1] | rw [if_pos q1, if_neg q2] | rw [if_pos q1, if_pos q2, if_neg q3] | rw [if_pos q1, if_pos q2, if_pos q3, ej, ei, if_pos q4] | rw [if_pos q1, if_pos q2, if_pos q3, ej, ei, if_neg q4]), rfl⟩
  · obtain ⟨j, hj, rfl⟩ := in_nat (by omega) q1
    have ej : (nI j).toNatClampNeg = j := nI_clamp (by omega)
    refine v_iload_n X rfl dX7_doorOf_8 ?_
    refine v_callS X ms_X7_130 (c_X7_isStrip l γ _ _) rfl ⟨Nat.le_of_ble_eq_true rfl, Nat.le_of_ble_eq_true rfl, Nat.le_of_ble_eq_true rfl, Nat.le_of_ble_eq_true rfl⟩ (Nat.le_of_ble_eq_true rfl) rfl dX7_doorOf_9 rfl (det_i ?_)
    refine v_if_eq_b (tgt := 24) X dX7_doorOf_12 (by decide) (fun q2 => ?_) (fun q2 => ?_)
    · refine v_sipush' X ks_m1002 dX7_doorOf_24 ?_
      subst hQ0
      exact v_iret X rfl (Nat.le_of_ble_eq_true rfl) (Nat.le_of_ble_eq_true rfl) dX7_doorOf_27 ⟨so_some (by unfold s_door; first | rw [if_neg q1] | rw [if_pos q1, if_neg q2] | rw [if_pos q1, if_pos q2, if_neg q3] | rw [if_pos q1, if_pos q2, if_pos q3, ej, ei, if_pos q4] | rw [if_pos q1, if_pos q2, if_pos q3, ej, ei, if_neg q4]), rfl⟩
    · obtain ⟨i, hi, rfl⟩ := in_nat (by decide) q2
      have ei : (nI i).toNatClampNeg = i := nI_clamp (by omega)
      refine v_iload_n X rfl dX7_doorOf_15 ?_
      refine v_iconst' X kc_0 dX7_doorOf_16 ?_
      refine v_iconst' X kc_1 dX7_doorOf_17 ?_
      refine v_callS X ms_X7_29 (c_X7_in l γ _ _ _ _) rfl ⟨Nat.le_of_ble_eq_true rfl, Nat.le_of_ble_eq_true rfl, Nat.le_of_ble_eq_true rfl, Nat.le_of_ble_eq_true rfl⟩ (Nat.le_of_ble_eq_true rfl) rfl dX7_doorOf_18 rfl (det_i ?_)
      refine v_if_ne_b (tgt := 28) X dX7_doorOf_21 (by decide) (fun q3 => ?_) (fun q3 => ?_)
      · refine v_aload_n X rfl dX7_doorOf_28 ?_
        refine v_iload_n X rfl dX7_doorOf_29 ?_
        refine v_iload_n X rfl dX7_doorOf_30 ?_
        refine v_if_ne (tgt := 38) X dX7_doorOf_31 (by decide) (fun q4 => ?_) (fun q4 => ?_)
        · refine v_iconst' X kc_5 dX7_doorOf_38 ?_
          refine v_iload_n X rfl dX7_doorOf_39 ?_
          refine v_iadd' X (nI_add _ _) dX7_doorOf_40 ?_
          refine v_callV (ci := 8) X mv_X7_90 (c_X7_of' l γ _ j ((5 + i)) (by omega)) rfl rfl (rd_Model γ _) rfl ⟨Nat.le_of_ble_eq_true rfl, Nat.le_of_ble_eq_true rfl, Nat.le_of_ble_eq_true rfl, Nat.le_of_ble_eq_true rfl⟩ (Nat.le_of_ble_eq_true rfl) rfl dX7_doorOf_41 rfl (det_i ?_)
          try simp (disch := decide) only [ws_11_10, ws_12_10, ws_12_11, ws_13_10, ws_13_11, ws_13_12, ws_14_10, ws_14_11, ws_14_12, ws_14_13, ws_15_10, ws_15_11, ws_15_12, ws_15_13, ws_15_14, wset_wset, ws_same, ws_ne, wh_ws]
          subst hQ0
          exact v_iret X rfl (Nat.le_of_ble_eq_true rfl) (Nat.le_of_ble_eq_true rfl) dX7_doorOf_44 ⟨so_some (by unfold s_door; first | rw [if_neg q1] | rw [if_pos q1, if_neg q2] | rw [if_pos q1, if_pos q2, if_neg q3] | rw [if_pos q1, if_pos q2, if_pos q3, ej, ei, if_pos q4] | rw [if_pos q1, if_pos q2, if_pos q3, ej, ei, if_neg q4]), rfl⟩
        · refine v_iconst' X kc_2 dX7_doorOf_34 ?_
          refine v_goto (tgt := 39) X dX7_doorOf_35 (by decide) ?_
          refine v_iload_n X rfl dX7_doorOf_39 ?_
          refine v_iadd' X (nI_add _ _) dX7_doorOf_40 ?_
          refine v_callV (ci := 8) X mv_X7_90 (c_X7_of' l γ _ j ((2 + i)) (by omega)) rfl rfl (rd_Model γ _) rfl ⟨Nat.le_of_ble_eq_true rfl, Nat.le_of_ble_eq_true rfl, Nat.le_of_ble_eq_true rfl, Nat.le_of_ble_eq_true rfl⟩ (Nat.le_of_ble_eq_true rfl) rfl dX7_doorOf_41 rfl (det_i ?_)
          try simp (disch := decide) only [ws_11_10, ws_12_10, ws_12_11, ws_13_10, ws_13_11, ws_13_12, ws_14_10, ws_14_11, ws_14_12, ws_14_13, ws_15_10, ws_15_11, ws_15_12, ws_15_13, ws_15_14, wset_wset, ws_same, ws_ne, wh_ws]
          subst hQ0
          exact v_iret X rfl (Nat.le_of_ble_eq_true rfl) (Nat.le_of_ble_eq_true rfl) dX7_doorOf_44 ⟨so_some (by unfold s_door; first | rw [if_neg q1] | rw [if_pos q1, if_neg q2] | rw [if_pos q1, if_pos q2, if_neg q3] | rw [if_pos q1, if_pos q2, if_pos q3, ej, ei, if_pos q4] | rw [if_pos q1, if_pos q2, if_pos q3, ej, ei, if_neg q4]), rfl⟩
      · refine v_sipush' X ks_m1002 dX7_doorOf_24 ?_
        subst hQ0
        exact v_iret X rfl (Nat.le_of_ble_eq_true rfl) (Nat.le_of_ble_eq_true rfl) dX7_doorOf_27 ⟨so_some (by unfold s_door; first | rw [if_neg q1] | rw [if_pos q1, if_neg q2] | rw [if_pos q1, if_pos q2, if_neg q3] | rw [if_pos q1, if_pos q2, if_pos q3, ej, ei, if_pos q4] | rw [if_pos q1, if_pos q2, if_pos q3, ej, ei, if_neg q4]), rfl⟩
set_option maxHeartbeats 4000000 in
set_option maxRecDepth 100000 in
theorem c_X7_height (l : Launch) (γ : Gm) (W : Wd) (x y : Int32) : Cr l γ yX7_height cX7_height 3 (some .int) 2 42 0 0 [.ref (γ.1 + 86), .int x, .int y] (rdw γ W) (Det (some (.int (s_height (W.1 10) x y))) (rdw γ W)) := by
  refine Cr_of [some (.ref (γ.1 + 86)), some (.int x), some (.int y)] (by decide +kernel) (Nat.le_of_ble_eq_true rfl) rfl ?_
  intro p e s m args below meth c X
  refine v_q0 (fun Q0 hQ0 => ?_)
  refine v_iload_n X rfl dX7_height_0 ?_
  refine v_callS X ms_X7_105 (c_X7_isCell l γ _ _) rfl ⟨Nat.le_of_ble_eq_true rfl, Nat.le_of_ble_eq_true rfl, Nat.le_of_ble_eq_true rfl, Nat.le_of_ble_eq_true rfl⟩ (Nat.le_of_ble_eq_true rfl) rfl dX7_height_1 rfl (det_i ?_)
  refine v_if_eq_b (tgt := 27) X dX7_height_4 (by decide) (fun q1 => ?_) (fun q1 => ?_)
  · refine v_sipush' X ks_m1002 dX7_height_27 ?_
    subst hQ0
    exact v_iret X rfl (Nat.le_of_ble_eq_true rfl) (Nat.le_of_ble_eq_true rfl) dX7_height_30 ⟨so_some (by unfold s_height; first | rw [if_neg q1] | rw [if_pos q1, if_neg q2] | rw [if_pos q1, if_pos q2, ej, ei]), rfl⟩
  · obtain ⟨j, hj, rfl⟩ := in_nat (by decide) q1
    have ej : (nI j).toNatClampNeg = j := nI_clamp (by omega)
    refine v_iload_n X rfl dX7_height_7 ?_
    refine v_callS X ms_X7_130 (c_X7_isStrip l γ _ _) rfl ⟨Nat.le_of_ble_eq_true rfl, Nat.le_of_ble_eq_true rfl, Nat.le_of_ble_eq_true rfl, Nat.le_of_ble_eq_true rfl⟩ (Nat.le_of_ble_eq_true rfl) rfl dX7_height_8 rfl (det_i ?_)
    refine v_if_eq_b (tgt := 27) X dX7_height_11 (by decide) (fun q2 => ?_) (fun q2 => ?_)
    · refine v_sipush' X ks_m1002 dX7_height_27 ?_
      subst hQ0
      exact v_iret X rfl (Nat.le_of_ble_eq_true rfl) (Nat.le_of_ble_eq_true rfl) dX7_height_30 ⟨so_some (by unfold s_height; first | rw [if_neg q1] | rw [if_pos q1, if_neg q2] | rw [if_pos q1, if_pos q2, ej, ei]), rfl⟩
    · obtain ⟨i, hi, rfl⟩ := in_nat (by decide) q2
      have ei : (nI i).toNatClampNeg = i := nI_clamp (by omega)
      refine v_aload_n X rfl dX7_height_14 ?_
      refine v_getf X fd_X7_7 (rd_Model γ _) rfl dX7_height_15 ?_
      refine v_iconst' X kc_3 dX7_height_18 ?_
      refine v_iload_n X rfl dX7_height_19 ?_
      refine v_imul' X (pk_mul _ _) dX7_height_20 ?_
      refine v_iload_n X rfl dX7_height_21 ?_
      refine v_iadd' X (nI_add _ _) dX7_height_22 ?_
      refine v_iald' X (v := ((W.1 10) (((3 * j) + i)))) (rd_M γ _) (((3 * j) + i)) rfl (by omega) (by decide) (vw_at (by omega)) dX7_height_23 ?_
      refine v_goto (tgt := 30) X dX7_height_24 (by decide) ?_
      subst hQ0
      exact v_iret X rfl (Nat.le_of_ble_eq_true rfl) (Nat.le_of_ble_eq_true rfl) dX7_height_30 ⟨so_some (by unfold s_height; first | rw [if_neg q1] | rw [if_pos q1, if_neg q2] | rw [if_pos q1, if_pos q2, ej, ei]), rfl⟩
set_option maxHeartbeats 4000000 in
set_option maxRecDepth 100000 in
theorem c_X7_sum (l : Launch) (γ : Gm) (W : Wd) (b : Nat) (hb : b < 3) : Cr l γ yX7_sum cX7_sum 4 (some .int) 0 0 0 0 [.ref (γ.1 + 86), .int (nI b)] (rdw γ W) (Det (some (.int (s_sum (W.1 10) b 40))) (rdw γ W)) := by
  refine Cr_of [some (.ref (γ.1 + 86)), some (.int (nI b)), none, none] (by decide +kernel) (Nat.le_of_ble_eq_true rfl) rfl ?_
  intro p e s m args below meth c X
  refine v_q0 (fun Q0 hQ0 => ?_)
  refine v_iconst' X kc_0 dX7_sum_0 ?_
  refine v_istore_n X (Nat.le_of_ble_eq_true rfl) rfl dX7_sum_1 ?_
  refine v_iconst' X kc_0 dX7_sum_2 ?_
  refine v_istore_n X (Nat.le_of_ble_eq_true rfl) rfl dX7_sum_3 ?_
  have lp4 : ∀ (n : Nat) (k : Nat), k ≤ 40 ∧ 41 ≤ k + n → V p l e { frames := 0, cells := 0, slots := 0, locals := 0 } s m args below meth c γ Q0 (rdw γ W) 0 0 4 [some (.ref (γ.1 + 86)), some (.int (nI b)), some (.int (s_sum (W.1 10) b k)), some (.int (nI k))] [] := by
    intro n
    induction n with
    | zero =>
      intro k hbd
      exact absurd hbd (by omega)
    | succ n ih =>
      intro k hbd
      refine v_iload_n X rfl dX7_sum_4 ?_
      refine v_bipush' X kb_40 dX7_sum_5 ?_
      refine v_icmp_ge_n (tgt := 29) X dX7_sum_7 (by decide) (by omega) (by omega) (fun c_1 => ?_) (fun c_1 => ?_)
      · have hk : k = 40 := by omega
        subst hk
        refine v_iload_n X rfl dX7_sum_29 ?_
        subst hQ0
        exact v_iret X rfl (Nat.le_of_ble_eq_true rfl) (Nat.le_of_ble_eq_true rfl) dX7_sum_30 ⟨rfl, rfl⟩
      · refine v_iload_n X rfl dX7_sum_10 ?_
        refine v_aload_n X rfl dX7_sum_11 ?_
        refine v_getf X fd_X7_7 (rd_Model γ _) rfl dX7_sum_12 ?_
        refine v_iconst' X kc_3 dX7_sum_15 ?_
        refine v_iload_n X rfl dX7_sum_16 ?_
        refine v_imul' X (pk_mul _ _) dX7_sum_17 ?_
        refine v_iload_n X rfl dX7_sum_18 ?_
        refine v_iadd' X (nI_add _ _) dX7_sum_19 ?_
        refine v_iald' X (v := ((W.1 10) (((3 * k) + b)))) (rd_M γ _) (((3 * k) + b)) rfl (by omega) (by decide) (vw_at (by omega)) dX7_sum_20 ?_
        refine v_iadd X dX7_sum_21 ?_
        refine v_istore_n X (Nat.le_of_ble_eq_true rfl) rfl dX7_sum_22 ?_
        refine v_iinc' X rfl rfl (nI_inc _) dX7_sum_23 ?_
        refine v_goto (tgt := 4) X dX7_sum_26 (by decide) ?_
        exact (ih (k + 1) ⟨by omega, by omega⟩)
  exact (lp4 41 0 ⟨by omega, by omega⟩)
set_option maxHeartbeats 4000000 in
set_option maxRecDepth 100000 in
theorem c_X7_highest (l : Launch) (γ : Gm) (W : Wd) (b : Nat) (hb : b < 3) : Cr l γ yX7_highest cX7_highest 4 (some .int) 0 0 0 0 [.ref (γ.1 + 86), .int (nI b)] (rdw γ W) (Det (some (.int (nI (s_high (W.1 10) b 40)))) (rdw γ W)) := by
  refine Cr_of [some (.ref (γ.1 + 86)), some (.int (nI b)), none, none] (by decide +kernel) (Nat.le_of_ble_eq_true rfl) rfl ?_
  intro p e s m args below meth c X
  refine v_q0 (fun Q0 hQ0 => ?_)
  refine v_iconst' X kc_0 dX7_highest_0 ?_
  refine v_istore_n X (Nat.le_of_ble_eq_true rfl) rfl dX7_highest_1 ?_
  refine v_iconst' X kc_1 dX7_highest_2 ?_
  refine v_istore_n X (Nat.le_of_ble_eq_true rfl) rfl dX7_highest_3 ?_
  have lp4 : ∀ (n : Nat) (k : Nat), 1 ≤ k ∧ k ≤ 40 ∧ 41 ≤ k + n → V p l e { frames := 0, cells := 0, slots := 0, locals := 0 } s m args below meth c γ Q0 (rdw γ W) 0 0 4 [some (.ref (γ.1 + 86)), some (.int (nI b)), some (.int (nI (s_high (W.1 10) b k))), some (.int (nI k))] [] := by
    intro n
    induction n with
    | zero =>
      intro k hbd
      exact absurd hbd (by omega)
    | succ n ih =>
      intro k hbd
      have hh := s_high_lt (W.1 10) b k (by omega)
      refine v_iload_n X rfl dX7_highest_4 ?_
      refine v_bipush' X kb_40 dX7_highest_5 ?_
      refine v_icmp_ge_n (tgt := 45) X dX7_highest_7 (by decide) (by omega) (by omega) (fun c_7 => ?_) (fun c_7 => ?_)
      · have hk : k = 40 := by omega
        subst hk
        refine v_iload_n X rfl dX7_highest_45 ?_
        subst hQ0
        exact v_iret X rfl (Nat.le_of_ble_eq_true rfl) (Nat.le_of_ble_eq_true rfl) dX7_highest_46 ⟨rfl, rfl⟩
      · refine v_aload_n X rfl dX7_highest_10 ?_
        refine v_getf X fd_X7_7 (rd_Model γ _) rfl dX7_highest_11 ?_
        refine v_iconst' X kc_3 dX7_highest_14 ?_
        refine v_iload_n X rfl dX7_highest_15 ?_
        refine v_imul' X (pk_mul _ _) dX7_highest_16 ?_
        refine v_iload_n X rfl dX7_highest_17 ?_
        refine v_iadd' X (nI_add _ _) dX7_highest_18 ?_
        refine v_iald' X (v := ((W.1 10) (((3 * k) + b)))) (rd_M γ _) (((3 * k) + b)) rfl (by omega) (by decide) (vw_at (by omega)) dX7_highest_19 ?_
        refine v_aload_n X rfl dX7_highest_20 ?_
        refine v_getf X fd_X7_7 (rd_Model γ _) rfl dX7_highest_21 ?_
        refine v_iconst' X kc_3 dX7_highest_24 ?_
        refine v_iload_n X rfl dX7_highest_25 ?_
        refine v_imul' X (pk_mul _ _) dX7_highest_26 ?_
        refine v_iload_n X rfl dX7_highest_27 ?_
        refine v_iadd' X (nI_add _ _) dX7_highest_28 ?_
        refine v_iald' X (v := ((W.1 10) (((3 * (s_high (W.1 10) b k)) + b)))) (rd_M γ _) (((3 * (s_high (W.1 10) b k)) + b)) rfl (by omega) (by decide) (vw_at (by omega)) dX7_highest_29 ?_
        refine v_icmp_le (tgt := 37) X dX7_highest_30 (by decide) (fun q1 => ?_) (fun q1 => ?_)
        · have hs1 := s_highP (M := W.1 10) (s := b) (n := k) q1
          refine v_iload_n X rfl dX7_highest_37 ?_
          refine v_istore_n X (Nat.le_of_ble_eq_true rfl) rfl dX7_highest_38 ?_
          refine v_iinc' X rfl rfl (nI_inc _) dX7_highest_39 ?_
          refine v_goto (tgt := 4) X dX7_highest_42 (by decide) ?_
          have hy := ih (k + 1) ⟨by omega, by omega, by omega⟩
          rw [hs1] at hy
          exact (hy)
        · have hs1 := s_highN (M := W.1 10) (s := b) (n := k) q1
          refine v_iload_n X rfl dX7_highest_33 ?_
          refine v_goto (tgt := 38) X dX7_highest_34 (by decide) ?_
          refine v_istore_n X (Nat.le_of_ble_eq_true rfl) rfl dX7_highest_38 ?_
          refine v_iinc' X rfl rfl (nI_inc _) dX7_highest_39 ?_
          refine v_goto (tgt := 4) X dX7_highest_42 (by decide) ?_
          have hy := ih (k + 1) ⟨by omega, by omega, by omega⟩
          rw [hs1] at hy
          exact (hy)
  have hy := lp4 40 1 ⟨by omega, by omega, by omega⟩
  rw [s_high1] at hy
  exact (hy)
set_option maxHeartbeats 4000000 in
set_option maxRecDepth 100000 in
theorem c_X7_row (l : Launch) (γ : Gm) (W : Wd) (b : Nat) (hb : b < 3) (g : Nat) (hg : g ≤ 1) : Cr l γ yX7_row cX7_row 8 (some .int) 0 0 0 0 [.ref (γ.1 + 86), .int (nI b), .int (nI g)] (rdw γ W) (Det (some (.int (nI (if g = 0 then s_all (W.1 10) b 40 else s_most (W.1 10) b 40)))) (rdw γ W)) := by
  refine Cr_of [some (.ref (γ.1 + 86)), some (.int (nI b)), some (.int (nI g)), none, none, none, none, none] (by decide +kernel) (Nat.le_of_ble_eq_true rfl) rfl ?_
  intro p e s m args below meth c X
  refine v_q0 (fun Q0 hQ0 => ?_)
  refine v_iconst' X kc_0 dX7_row_0 ?_
  refine v_istore_n X (Nat.le_of_ble_eq_true rfl) rfl dX7_row_1 ?_
  refine v_iconst' X kc_0 dX7_row_2 ?_
  refine v_istore X (Nat.le_of_ble_eq_true rfl) rfl dX7_row_3 ?_
  refine v_iconst' X kc_0 dX7_row_5 ?_
  refine v_istore X (Nat.le_of_ble_eq_true rfl) rfl dX7_row_6 ?_
  refine v_iconst' X kc_0 dX7_row_8 ?_
  refine v_istore X (Nat.le_of_ble_eq_true rfl) rfl dX7_row_9 ?_
  have lp11 : ∀ (n : Nat) (k : Nat), k ≤ 40 ∧ 41 ≤ k + n → V p l e { frames := 0, cells := 0, slots := 0, locals := 0 } s m args below meth c γ Q0 (rdw γ W) 0 0 11 [some (.ref (γ.1 + 86)), some (.int (nI b)), some (.int (nI g)), some (.int (nI (s_all (W.1 10) b k))), some (.int (nI (s_now (W.1 10) b k))), some (.int (nI (s_most (W.1 10) b k))), some (.int (nI k)), none] [] := by
    intro n
    induction n with
    | zero =>
      intro k hbd
      exact absurd hbd (by omega)
    | succ n ih =>
      intro k hbd
      have h1 := s_now_le (W.1 10) b k
      have h2 := s_most_le (W.1 10) b k
      have h3 := s_all_le (W.1 10) b k
      refine v_iload X rfl dX7_row_11 ?_
      refine v_bipush' X kb_40 dX7_row_13 ?_
      refine v_icmp_ge_n (tgt := 97) X dX7_row_15 (by decide) (by omega) (by omega) (fun c_7 => ?_) (fun c_7 => ?_)
      · have hk : k = 40 := by omega
        subst hk
        refine v_iload_n X rfl dX7_row_97 ?_
        refine v_if_eq_n (tgt := 106) X dX7_row_98 (by decide) (by omega) (fun q3 => ?_) (fun q3 => ?_)
        · refine v_iload_n X rfl dX7_row_106 ?_
          subst hQ0
          exact v_iret X rfl (Nat.le_of_ble_eq_true rfl) (Nat.le_of_ble_eq_true rfl) dX7_row_107 ⟨so_some (by first | rw [if_pos q3] | rw [if_neg q3]), rfl⟩
        · refine v_iload X rfl dX7_row_101 ?_
          refine v_goto (tgt := 107) X dX7_row_103 (by decide) ?_
          subst hQ0
          exact v_iret X rfl (Nat.le_of_ble_eq_true rfl) (Nat.le_of_ble_eq_true rfl) dX7_row_107 ⟨so_some (by first | rw [if_pos q3] | rw [if_neg q3]), rfl⟩
      · refine v_aload_n X rfl dX7_row_18 ?_
        refine v_getf X fd_X7_7 (rd_Model γ _) rfl dX7_row_19 ?_
        refine v_iconst' X kc_3 dX7_row_22 ?_
        refine v_iload X rfl dX7_row_23 ?_
        refine v_imul' X (pk_mul _ _) dX7_row_25 ?_
        refine v_iload_n X rfl dX7_row_26 ?_
        refine v_iadd' X (nI_add _ _) dX7_row_27 ?_
        refine v_iald' X (v := ((W.1 10) (((3 * k) + b)))) (rd_M γ _) (((3 * k) + b)) rfl (by omega) (by decide) (vw_at (by omega)) dX7_row_28 ?_
        refine v_aload_n X rfl dX7_row_29 ?_
        refine v_getf X fd_X7_7 (rd_Model γ _) rfl dX7_row_30 ?_
        refine v_sipush' X ks_232 dX7_row_33 ?_
        refine v_iald' X (v := ((W.1 10) (232))) (rd_M γ _) (232) rfl (by omega) (by decide) (vw_at (by omega)) dX7_row_36 ?_
        refine v_icmp_lt (tgt := 44) X dX7_row_37 (by decide) (fun q1 => ?_) (fun q1 => ?_)
        · have hs2 := s_nowP (M := W.1 10) (s := b) (n := k) q1
          have hs3 := s_allP (M := W.1 10) (s := b) (n := k) q1
          refine v_iconst' X kc_0 dX7_row_44 ?_
          refine v_istore X (Nat.le_of_ble_eq_true rfl) rfl dX7_row_45 ?_
          refine v_iload_n X rfl dX7_row_47 ?_
          refine v_iload X rfl dX7_row_48 ?_
          refine v_if_eq_t (tgt := 57) X dX7_row_50 (by decide) (by decide) ?_
          refine v_iconst' X kc_0 dX7_row_57 ?_
          refine v_iadd' X (nI_add _ _) dX7_row_58 ?_
          refine v_istore_n X (Nat.le_of_ble_eq_true rfl) rfl dX7_row_59 ?_
          refine v_iload X rfl dX7_row_60 ?_
          refine v_if_eq_t (tgt := 72) X dX7_row_62 (by decide) (by decide) ?_
          refine v_iconst' X kc_0 dX7_row_72 ?_
          refine v_istore X (Nat.le_of_ble_eq_true rfl) rfl dX7_row_73 ?_
          refine v_iload X rfl dX7_row_75 ?_
          refine v_iload X rfl dX7_row_77 ?_
          refine v_icmp_le_n (tgt := 87) X dX7_row_79 (by decide) (by omega) (by omega) (fun q2 => ?_) (fun q2 => ?_)
          · have hs1 := s_mostP (M := W.1 10) (s := b) (n := k) (by rw [hs2]; omega)
            refine v_iload X rfl dX7_row_87 ?_
            refine v_istore X (Nat.le_of_ble_eq_true rfl) rfl dX7_row_89 ?_
            refine v_iinc' X rfl rfl (nI_inc _) dX7_row_91 ?_
            refine v_goto (tgt := 11) X dX7_row_94 (by decide) ?_
            have hy := ih (k + 1) ⟨by omega, by omega⟩
            rw [hs1, hs2, hs3] at hy
            exact v_Ln (hy) ⟨Or.inr rfl, Or.inr rfl, Or.inr rfl, Or.inr rfl, Or.inr rfl, Or.inr rfl, Or.inr rfl, Or.inl rfl, trivial⟩
          · have hs1 := (s_mostN (M := W.1 10) (s := b) (n := k) (by rw [hs2]; omega)).trans hs2
            refine v_iload X rfl dX7_row_82 ?_
            refine v_goto (tgt := 89) X dX7_row_84 (by decide) ?_
            refine v_istore X (Nat.le_of_ble_eq_true rfl) rfl dX7_row_89 ?_
            refine v_iinc' X rfl rfl (nI_inc _) dX7_row_91 ?_
            refine v_goto (tgt := 11) X dX7_row_94 (by decide) ?_
            have hy := ih (k + 1) ⟨by omega, by omega⟩
            rw [hs1, hs2, hs3] at hy
            exact v_Ln (hy) ⟨Or.inr rfl, Or.inr rfl, Or.inr rfl, Or.inr rfl, Or.inr rfl, Or.inr rfl, Or.inr rfl, Or.inl rfl, trivial⟩
        · have hs2 := s_nowN (M := W.1 10) (s := b) (n := k) q1
          have hs3 := s_allN (M := W.1 10) (s := b) (n := k) q1
          refine v_iconst' X kc_1 dX7_row_40 ?_
          refine v_goto (tgt := 45) X dX7_row_41 (by decide) ?_
          refine v_istore X (Nat.le_of_ble_eq_true rfl) rfl dX7_row_45 ?_
          refine v_iload_n X rfl dX7_row_47 ?_
          refine v_iload X rfl dX7_row_48 ?_
          refine v_if_eq_f (tgt := 57) X dX7_row_50 (by decide) (by decide) ?_
          refine v_iconst' X kc_1 dX7_row_53 ?_
          refine v_goto (tgt := 58) X dX7_row_54 (by decide) ?_
          refine v_iadd' X (nI_add _ _) dX7_row_58 ?_
          refine v_istore_n X (Nat.le_of_ble_eq_true rfl) rfl dX7_row_59 ?_
          refine v_iload X rfl dX7_row_60 ?_
          refine v_if_eq_f (tgt := 72) X dX7_row_62 (by decide) (by decide) ?_
          refine v_iload X rfl dX7_row_65 ?_
          refine v_iconst' X kc_1 dX7_row_67 ?_
          refine v_iadd' X (nI_add _ _) dX7_row_68 ?_
          refine v_goto (tgt := 73) X dX7_row_69 (by decide) ?_
          refine v_istore X (Nat.le_of_ble_eq_true rfl) rfl dX7_row_73 ?_
          refine v_iload X rfl dX7_row_75 ?_
          refine v_iload X rfl dX7_row_77 ?_
          refine v_icmp_le_n (tgt := 87) X dX7_row_79 (by decide) (by omega) (by omega) (fun q2 => ?_) (fun q2 => ?_)
          · have hs1 := s_mostP (M := W.1 10) (s := b) (n := k) (by rw [hs2]; omega)
            refine v_iload X rfl dX7_row_87 ?_
            refine v_istore X (Nat.le_of_ble_eq_true rfl) rfl dX7_row_89 ?_
            refine v_iinc' X rfl rfl (nI_inc _) dX7_row_91 ?_
            refine v_goto (tgt := 11) X dX7_row_94 (by decide) ?_
            have hy := ih (k + 1) ⟨by omega, by omega⟩
            rw [hs1, hs2, hs3] at hy
            exact v_Ln (hy) ⟨Or.inr rfl, Or.inr rfl, Or.inr rfl, Or.inr rfl, Or.inr rfl, Or.inr rfl, Or.inr rfl, Or.inl rfl, trivial⟩
          · have hs1 := (s_mostN (M := W.1 10) (s := b) (n := k) (by rw [hs2]; omega)).trans hs2
            refine v_iload X rfl dX7_row_82 ?_
            refine v_goto (tgt := 89) X dX7_row_84 (by decide) ?_
            refine v_istore X (Nat.le_of_ble_eq_true rfl) rfl dX7_row_89 ?_
            refine v_iinc' X rfl rfl (nI_inc _) dX7_row_91 ?_
            refine v_goto (tgt := 11) X dX7_row_94 (by decide) ?_
            have hy := ih (k + 1) ⟨by omega, by omega⟩
            rw [hs1, hs2, hs3] at hy
            exact v_Ln (hy) ⟨Or.inr rfl, Or.inr rfl, Or.inr rfl, Or.inr rfl, Or.inr rfl, Or.inr rfl, Or.inr rfl, Or.inl rfl, trivial⟩
  exact v_Ln (lp11 41 0 ⟨by omega, by omega⟩) ⟨Or.inr rfl, Or.inr rfl, Or.inr rfl, Or.inr rfl, Or.inr rfl, Or.inr rfl, Or.inr rfl, Or.inl rfl, trivial⟩
set_option maxHeartbeats 4000000 in
set_option maxRecDepth 100000 in
theorem c_X7_steepest (l : Launch) (γ : Gm) (W : Wd) (b : Nat) (hb : b < 3) : Cr l γ yX7_steepest cX7_steepest 5 (some .int) 0 0 0 0 [.ref (γ.1 + 86), .int (nI b)] (rdw γ W) (Det (some (.int (s_steep (W.1 10) b 39))) (rdw γ W)) := by
  refine Cr_of [some (.ref (γ.1 + 86)), some (.int (nI b)), none, none, none] (by decide +kernel) (Nat.le_of_ble_eq_true rfl) rfl ?_
  intro p e s m args below meth c X
  refine v_q0 (fun Q0 hQ0 => ?_)
  refine v_iconst' X kc_0 dX7_steepest_0 ?_
  refine v_istore_n X (Nat.le_of_ble_eq_true rfl) rfl dX7_steepest_1 ?_
  refine v_iconst' X kc_0 dX7_steepest_2 ?_
  refine v_istore_n X (Nat.le_of_ble_eq_true rfl) rfl dX7_steepest_3 ?_
  have lp4 : ∀ (n : Nat) (k : Nat), k ≤ 39 ∧ 40 ≤ k + n → V p l e { frames := 0, cells := 0, slots := 0, locals := 0 } s m args below meth c γ Q0 (rdw γ W) 0 0 4 [some (.ref (γ.1 + 86)), some (.int (nI b)), some (.int (s_steep (W.1 10) b k)), some (.int (nI k)), none] [] := by
    intro n
    induction n with
    | zero =>
      intro k hbd
      exact absurd hbd (by omega)
    | succ n ih =>
      intro k hbd
      refine v_iload_n X rfl dX7_steepest_4 ?_
      refine v_iconst' X kc_1 dX7_steepest_5 ?_
      refine v_iadd' X (nI_add _ _) dX7_steepest_6 ?_
      refine v_bipush' X kb_40 dX7_steepest_7 ?_
      refine v_icmp_ge_n (tgt := 71) X dX7_steepest_9 (by decide) (by omega) (by omega) (fun c_7 => ?_) (fun c_7 => ?_)
      · have hk : k = 39 := by omega
        subst hk
        refine v_iload_n X rfl dX7_steepest_71 ?_
        subst hQ0
        exact v_iret X rfl (Nat.le_of_ble_eq_true rfl) (Nat.le_of_ble_eq_true rfl) dX7_steepest_72 ⟨rfl, rfl⟩
      · refine v_aload_n X rfl dX7_steepest_12 ?_
        refine v_getf X fd_X7_7 (rd_Model γ _) rfl dX7_steepest_13 ?_
        refine v_iconst' X kc_3 dX7_steepest_16 ?_
        refine v_iload_n X rfl dX7_steepest_17 ?_
        refine v_imul' X (pk_mul _ _) dX7_steepest_18 ?_
        refine v_iload_n X rfl dX7_steepest_19 ?_
        refine v_iadd' X (nI_add _ _) dX7_steepest_20 ?_
        refine v_iald' X (v := ((W.1 10) (((3 * k) + b)))) (rd_M γ _) (((3 * k) + b)) rfl (by omega) (by decide) (vw_at (by omega)) dX7_steepest_21 ?_
        refine v_aload_n X rfl dX7_steepest_22 ?_
        refine v_getf X fd_X7_7 (rd_Model γ _) rfl dX7_steepest_23 ?_
        refine v_iconst' X kc_3 dX7_steepest_26 ?_
        refine v_iload_n X rfl dX7_steepest_27 ?_
        refine v_imul' X (pk_mul _ _) dX7_steepest_28 ?_
        refine v_iconst' X kc_3 dX7_steepest_29 ?_
        refine v_iadd' X (nI_add _ _) dX7_steepest_30 ?_
        refine v_iload_n X rfl dX7_steepest_31 ?_
        refine v_iadd' X (nI_add _ _) dX7_steepest_32 ?_
        refine v_iald' X (v := ((W.1 10) ((((3 * k) + 3) + b)))) (rd_M γ _) ((((3 * k) + 3) + b)) rfl (by omega) (by decide) (vw_at (by omega)) dX7_steepest_33 ?_
        refine v_isub X dX7_steepest_34 ?_
        show V p l e _ s m args below meth c γ _ _ _ _ _ _ (.int (q_by (W.1 10) k b) :: _)
        refine v_istore X (Nat.le_of_ble_eq_true rfl) rfl dX7_steepest_35 ?_
        refine v_iload X rfl dX7_steepest_37 ?_
        have jn50 : ∀ (u : Int32), u = s_abs (q_by (W.1 10) k b) → V p l e { frames := 0, cells := 0, slots := 0, locals := 0 } s m args below meth c γ Q0 (rdw γ W) 0 0 50 [some (.ref (γ.1 + 86)), some (.int (nI b)), some (.int (s_steep (W.1 10) b k)), some (.int (nI k)), none] [.int u] := by
          intro u hu
          subst hu
          refine v_istore X (Nat.le_of_ble_eq_true rfl) rfl dX7_steepest_50 ?_
          refine v_iload X rfl dX7_steepest_52 ?_
          refine v_iload_n X rfl dX7_steepest_54 ?_
          refine v_icmp_le (tgt := 63) X dX7_steepest_55 (by decide) (fun q2 => ?_) (fun q2 => ?_)
          · have hs1 := s_steepP (M := W.1 10) (s := b) (n := k) q2
            refine v_iload_n X rfl dX7_steepest_63 ?_
            refine v_istore_n X (Nat.le_of_ble_eq_true rfl) rfl dX7_steepest_64 ?_
            refine v_iinc' X rfl rfl (nI_inc _) dX7_steepest_65 ?_
            refine v_goto (tgt := 4) X dX7_steepest_68 (by decide) ?_
            have hy := ih (k + 1) ⟨by omega, by omega⟩
            rw [hs1] at hy
            exact v_Ln (hy) ⟨Or.inr rfl, Or.inr rfl, Or.inr rfl, Or.inr rfl, Or.inl rfl, trivial⟩
          · have hs1 := s_steepN (M := W.1 10) (s := b) (n := k) q2
            refine v_iload X rfl dX7_steepest_58 ?_
            refine v_goto (tgt := 64) X dX7_steepest_60 (by decide) ?_
            refine v_istore_n X (Nat.le_of_ble_eq_true rfl) rfl dX7_steepest_64 ?_
            refine v_iinc' X rfl rfl (nI_inc _) dX7_steepest_65 ?_
            refine v_goto (tgt := 4) X dX7_steepest_68 (by decide) ?_
            have hy := ih (k + 1) ⟨by omega, by omega⟩
            rw [hs1] at hy
            exact v_Ln (hy) ⟨Or.inr rfl, Or.inr rfl, Or.inr rfl, Or.inr rfl, Or.inl rfl, trivial⟩
        refine v_if_ge (tgt := 48) X dX7_steepest_39 (by decide) (fun q1 => ?_) (fun q1 => ?_)
        · refine v_iload X rfl dX7_steepest_48 ?_
          exact v_Ln (jn50 _ (by unfold s_abs; first | rw [if_pos q1] | rw [if_neg q1])) ⟨Or.inr rfl, Or.inr rfl, Or.inr rfl, Or.inr rfl, Or.inl rfl, trivial⟩
        · refine v_iload X rfl dX7_steepest_42 ?_
          refine v_ineg X dX7_steepest_44 ?_
          refine v_goto (tgt := 50) X dX7_steepest_45 (by decide) ?_
          exact v_Ln (jn50 _ (by unfold s_abs; first | rw [if_pos q1] | rw [if_neg q1])) ⟨Or.inr rfl, Or.inr rfl, Or.inr rfl, Or.inr rfl, Or.inl rfl, trivial⟩
  exact v_Ln (lp4 40 0 ⟨by omega, by omega⟩) ⟨Or.inr rfl, Or.inr rfl, Or.inr rfl, Or.inr rfl, Or.inl rfl, trivial⟩
set_option maxHeartbeats 4000000 in
set_option maxRecDepth 100000 in
theorem c_X7_profile (l : Launch) (γ : Gm) (W : Wd) (x z : Int32) : Cr l γ yX7_profile cX7_profile 3 (some .int) 2 42 0 0 [.ref (γ.1 + 86), .int x, .int z] (rdw γ W) (Det (some (.int (s_prof (W.1 10) x z))) (rdw γ W)) := by
  refine Cr_of [some (.ref (γ.1 + 86)), some (.int x), some (.int z)] (by decide +kernel) (Nat.le_of_ble_eq_true rfl) rfl ?_
  intro p e s m args below meth c X
  refine v_q0 (fun Q0 hQ0 => ?_)
  refine v_iload_n X rfl dX7_profile_0 ?_
  refine v_callS X ms_X7_130 (c_X7_isStrip l γ _ _) rfl ⟨Nat.le_of_ble_eq_true rfl, Nat.le_of_ble_eq_true rfl, Nat.le_of_ble_eq_true rfl, Nat.le_of_ble_eq_true rfl⟩ (Nat.le_of_ble_eq_true rfl) rfl dX7_profile_1 rfl (det_i ?_)
  refine v_if_ne_b (tgt := 11) X dX7_profile_4 (by decide) (fun q1 => ?_) (fun q1 => ?_)
  · obtain ⟨j, hj, rfl⟩ := in_nat (by decide) q1
    have ej : (nI j).toNatClampNeg = j := nI_clamp (by omega)
    refine v_iload_n X rfl dX7_profile_11 ?_
    by_cases hsw : ¬ z < nI 0 ∧ ¬ nI 5 < z
    · obtain ⟨jj, hjj, rfl⟩ := in_nat (by decide) hsw
      rcases (by omega : jj = 0 ∨ jj = 1 ∨ jj = 2 ∨ jj = 3 ∨ jj = 4 ∨ jj = 5) with rfl | rfl | rfl | rfl | rfl | rfl
      · refine v_tableIn (tgt := 52) (off := 40) X dX7_profile_12 (by decide) (by decide) (by decide) (by decide) ?_
        refine v_aload_n X rfl dX7_profile_52 ?_
        refine v_iload_n X rfl dX7_profile_53 ?_
        refine v_callV (ci := 8) X mv_X7_136 (c_X7_sum l γ _ j (by omega)) rfl rfl (rd_Model γ _) rfl ⟨Nat.le_of_ble_eq_true rfl, Nat.le_of_ble_eq_true rfl, Nat.le_of_ble_eq_true rfl, Nat.le_of_ble_eq_true rfl⟩ (Nat.le_of_ble_eq_true rfl) rfl dX7_profile_54 rfl (det_i ?_)
        subst hQ0
        exact v_iret X rfl (Nat.le_of_ble_eq_true rfl) (Nat.le_of_ble_eq_true rfl) dX7_profile_57 ⟨so_some (by unfold s_prof; first | rw [if_neg q1] | (rw [if_pos q1, if_pos hsw, ej, nI_clamp (by decide)]; rfl) | rw [if_pos q1, if_neg hsw]), rfl⟩
      · refine v_tableIn (tgt := 58) (off := 46) X dX7_profile_12 (by decide) (by decide) (by decide) (by decide) ?_
        refine v_aload_n X rfl dX7_profile_58 ?_
        refine v_getf X fd_X7_7 (rd_Model γ _) rfl dX7_profile_59 ?_
        refine v_iconst' X kc_3 dX7_profile_62 ?_
        refine v_aload_n X rfl dX7_profile_63 ?_
        refine v_iload_n X rfl dX7_profile_64 ?_
        refine v_callV (ci := 8) X mv_X7_140 (c_X7_highest l γ _ j (by omega)) rfl rfl (rd_Model γ _) rfl ⟨Nat.le_of_ble_eq_true rfl, Nat.le_of_ble_eq_true rfl, Nat.le_of_ble_eq_true rfl, Nat.le_of_ble_eq_true rfl⟩ (Nat.le_of_ble_eq_true rfl) rfl dX7_profile_65 rfl (det_i ?_)
        refine v_imul' X (pk_mul _ _) dX7_profile_68 ?_
        refine v_iload_n X rfl dX7_profile_69 ?_
        refine v_iadd' X (nI_add _ _) dX7_profile_70 ?_
        refine v_iald' X (v := ((W.1 10) (((3 * (s_high (W.1 10) j 40)) + j)))) (rd_M γ _) (((3 * (s_high (W.1 10) j 40)) + j)) rfl (by have hh := s_high_lt (W.1 10) j 40 (by decide); omega) (by decide) (vw_at (by have hh := s_high_lt (W.1 10) j 40 (by decide); omega)) dX7_profile_71 ?_
        subst hQ0
        exact v_iret X rfl (Nat.le_of_ble_eq_true rfl) (Nat.le_of_ble_eq_true rfl) dX7_profile_72 ⟨so_some (by unfold s_prof; first | rw [if_neg q1] | (rw [if_pos q1, if_pos hsw, ej, nI_clamp (by decide)]; rfl) | rw [if_pos q1, if_neg hsw]), rfl⟩
      · refine v_tableIn (tgt := 73) (off := 61) X dX7_profile_12 (by decide) (by decide) (by decide) (by decide) ?_
        refine v_aload_n X rfl dX7_profile_73 ?_
        refine v_iload_n X rfl dX7_profile_74 ?_
        refine v_callV (ci := 8) X mv_X7_140 (c_X7_highest l γ _ j (by omega)) rfl rfl (rd_Model γ _) rfl ⟨Nat.le_of_ble_eq_true rfl, Nat.le_of_ble_eq_true rfl, Nat.le_of_ble_eq_true rfl, Nat.le_of_ble_eq_true rfl⟩ (Nat.le_of_ble_eq_true rfl) rfl dX7_profile_75 rfl (det_i ?_)
        subst hQ0
        exact v_iret X rfl (Nat.le_of_ble_eq_true rfl) (Nat.le_of_ble_eq_true rfl) dX7_profile_78 ⟨so_some (by unfold s_prof; first | rw [if_neg q1] | (rw [if_pos q1, if_pos hsw, ej, nI_clamp (by decide)]; rfl) | rw [if_pos q1, if_neg hsw]), rfl⟩
      · refine v_tableIn (tgt := 79) (off := 67) X dX7_profile_12 (by decide) (by decide) (by decide) (by decide) ?_
        refine v_aload_n X rfl dX7_profile_79 ?_
        refine v_iload_n X rfl dX7_profile_80 ?_
        refine v_iconst' X kc_0 dX7_profile_81 ?_
        refine v_callV (ci := 8) X mv_X7_143 (c_X7_row l γ _ j (by omega) 0 (by decide)) rfl rfl (rd_Model γ _) rfl ⟨Nat.le_of_ble_eq_true rfl, Nat.le_of_ble_eq_true rfl, Nat.le_of_ble_eq_true rfl, Nat.le_of_ble_eq_true rfl⟩ (Nat.le_of_ble_eq_true rfl) rfl dX7_profile_82 rfl (det_i ?_)
        subst hQ0
        exact v_iret X rfl (Nat.le_of_ble_eq_true rfl) (Nat.le_of_ble_eq_true rfl) dX7_profile_85 ⟨so_some (by unfold s_prof; first | rw [if_neg q1] | (rw [if_pos q1, if_pos hsw, ej, nI_clamp (by decide)]; rfl) | rw [if_pos q1, if_neg hsw]), rfl⟩
      · refine v_tableIn (tgt := 86) (off := 74) X dX7_profile_12 (by decide) (by decide) (by decide) (by decide) ?_
        refine v_aload_n X rfl dX7_profile_86 ?_
        refine v_iload_n X rfl dX7_profile_87 ?_
        refine v_iconst' X kc_1 dX7_profile_88 ?_
        refine v_callV (ci := 8) X mv_X7_143 (c_X7_row l γ _ j (by omega) 1 (by decide)) rfl rfl (rd_Model γ _) rfl ⟨Nat.le_of_ble_eq_true rfl, Nat.le_of_ble_eq_true rfl, Nat.le_of_ble_eq_true rfl, Nat.le_of_ble_eq_true rfl⟩ (Nat.le_of_ble_eq_true rfl) rfl dX7_profile_89 rfl (det_i ?_)
        subst hQ0
        exact v_iret X rfl (Nat.le_of_ble_eq_true rfl) (Nat.le_of_ble_eq_true rfl) dX7_profile_92 ⟨so_some (by unfold s_prof; first | rw [if_neg q1] | (rw [if_pos q1, if_pos hsw, ej, nI_clamp (by decide)]; rfl) | rw [if_pos q1, if_neg hsw]), rfl⟩
      · refine v_tableIn (tgt := 93) (off := 81) X dX7_profile_12 (by decide) (by decide) (by decide) (by decide) ?_
        refine v_aload_n X rfl dX7_profile_93 ?_
        refine v_iload_n X rfl dX7_profile_94 ?_
        refine v_callV (ci := 8) X mv_X7_147 (c_X7_steepest l γ _ j (by omega)) rfl rfl (rd_Model γ _) rfl ⟨Nat.le_of_ble_eq_true rfl, Nat.le_of_ble_eq_true rfl, Nat.le_of_ble_eq_true rfl, Nat.le_of_ble_eq_true rfl⟩ (Nat.le_of_ble_eq_true rfl) rfl dX7_profile_95 rfl (det_i ?_)
        subst hQ0
        exact v_iret X rfl (Nat.le_of_ble_eq_true rfl) (Nat.le_of_ble_eq_true rfl) dX7_profile_98 ⟨so_some (by unfold s_prof; first | rw [if_neg q1] | (rw [if_pos q1, if_pos hsw, ej, nI_clamp (by decide)]; rfl) | rw [if_pos q1, if_neg hsw]), rfl⟩
    · refine v_tableOut (tgt := 99) X dX7_profile_12 (sw_out (by decide) hsw) (by decide) ?_
      refine v_sipush' X ks_m1002 dX7_profile_99 ?_
      subst hQ0
      exact v_iret X rfl (Nat.le_of_ble_eq_true rfl) (Nat.le_of_ble_eq_true rfl) dX7_profile_102 ⟨so_some (by unfold s_prof; first | rw [if_neg q1] | (rw [if_pos q1, if_pos hsw, ej, nI_clamp (by decide)]; rfl) | rw [if_pos q1, if_neg hsw]), rfl⟩
  · refine v_sipush' X ks_m1002 dX7_profile_7 ?_
    subst hQ0
    exact v_iret X rfl (Nat.le_of_ble_eq_true rfl) (Nat.le_of_ble_eq_true rfl) dX7_profile_10 ⟨so_some (by unfold s_prof; first | rw [if_neg q1] | (rw [if_pos q1, if_pos hsw, ej, nI_clamp (by decide)]; rfl) | rw [if_pos q1, if_neg hsw]), rfl⟩
set_option maxHeartbeats 4000000 in
set_option maxRecDepth 100000 in
theorem c_X7_lackingIn (l : Launch) (γ : Gm) (W : Wd) (b : Nat) (hb : b < 40) : Cr l γ yX7_lackingIn cX7_lackingIn 4 (some .int) 0 0 0 0 [.ref (γ.1 + 86), .int (nI b)] (rdw γ W) (Det (some (.int (s_lackIn (W.1 10) b 3))) (rdw γ W)) := by
  refine Cr_of [some (.ref (γ.1 + 86)), some (.int (nI b)), none, none] (by decide +kernel) (Nat.le_of_ble_eq_true rfl) rfl ?_
  intro p e s m args below meth c X
  refine v_q0 (fun Q0 hQ0 => ?_)
  refine v_iconst' X kc_0 dX7_lackingIn_0 ?_
  refine v_istore_n X (Nat.le_of_ble_eq_true rfl) rfl dX7_lackingIn_1 ?_
  refine v_iconst' X kc_0 dX7_lackingIn_2 ?_
  refine v_istore_n X (Nat.le_of_ble_eq_true rfl) rfl dX7_lackingIn_3 ?_
  have lp4 : ∀ (n : Nat) (k : Nat), k ≤ 3 ∧ 4 ≤ k + n → V p l e { frames := 0, cells := 0, slots := 0, locals := 0 } s m args below meth c γ Q0 (rdw γ W) 0 0 4 [some (.ref (γ.1 + 86)), some (.int (nI b)), some (.int (s_lackIn (W.1 10) b k)), some (.int (nI k))] [] := by
    intro n
    induction n with
    | zero =>
      intro k hbd
      exact absurd hbd (by omega)
    | succ n ih =>
      intro k hbd
      refine v_iload_n X rfl dX7_lackingIn_4 ?_
      refine v_iconst' X kc_3 dX7_lackingIn_5 ?_
      refine v_icmp_ge_n (tgt := 62) X dX7_lackingIn_6 (by decide) (by omega) (by omega) (fun c_7 => ?_) (fun c_7 => ?_)
      · have hk : k = 3 := by omega
        subst hk
        refine v_iload_n X rfl dX7_lackingIn_62 ?_
        subst hQ0
        exact v_iret X rfl (Nat.le_of_ble_eq_true rfl) (Nat.le_of_ble_eq_true rfl) dX7_lackingIn_63 ⟨rfl, rfl⟩
      · refine v_iload_n X rfl dX7_lackingIn_9 ?_
        refine v_aload_n X rfl dX7_lackingIn_10 ?_
        refine v_getf X fd_X7_7 (rd_Model γ _) rfl dX7_lackingIn_11 ?_
        refine v_iconst' X kc_3 dX7_lackingIn_14 ?_
        refine v_iload_n X rfl dX7_lackingIn_15 ?_
        refine v_imul' X (pk_mul _ _) dX7_lackingIn_16 ?_
        refine v_iload_n X rfl dX7_lackingIn_17 ?_
        refine v_iadd' X (nI_add _ _) dX7_lackingIn_18 ?_
        refine v_iald' X (v := ((W.1 10) (((3 * b) + k)))) (rd_M γ _) (((3 * b) + k)) rfl (by omega) (by decide) (vw_at (by omega)) dX7_lackingIn_19 ?_
        refine v_aload_n X rfl dX7_lackingIn_20 ?_
        refine v_getf X fd_X7_7 (rd_Model γ _) rfl dX7_lackingIn_21 ?_
        refine v_sipush' X ks_232 dX7_lackingIn_24 ?_
        refine v_iald' X (v := ((W.1 10) (232))) (rd_M γ _) (232) rfl (by omega) (by decide) (vw_at (by omega)) dX7_lackingIn_27 ?_
        refine v_icmp_ge (tgt := 53) X dX7_lackingIn_28 (by decide) (fun q1 => ?_) (fun q1 => ?_)
        · have hs1 := s_lackP (M := W.1 10) (c := b) (n := k) q1
          refine v_iconst' X kc_0 dX7_lackingIn_53 ?_
          refine v_iadd X dX7_lackingIn_54 ?_
          refine v_istore_n X (Nat.le_of_ble_eq_true rfl) rfl dX7_lackingIn_55 ?_
          refine v_iinc' X rfl rfl (nI_inc _) dX7_lackingIn_56 ?_
          refine v_goto (tgt := 4) X dX7_lackingIn_59 (by decide) ?_
          have hy := ih (k + 1) ⟨by omega, by omega⟩
          rw [hs1] at hy
          exact (hy)
        · have hs1 := s_lackN (M := W.1 10) (c := b) (n := k) q1
          refine v_aload_n X rfl dX7_lackingIn_31 ?_
          refine v_getf X fd_X7_7 (rd_Model γ _) rfl dX7_lackingIn_32 ?_
          refine v_sipush' X ks_232 dX7_lackingIn_35 ?_
          refine v_iald' X (v := ((W.1 10) (232))) (rd_M γ _) (232) rfl (by omega) (by decide) (vw_at (by omega)) dX7_lackingIn_38 ?_
          refine v_aload_n X rfl dX7_lackingIn_39 ?_
          refine v_getf X fd_X7_7 (rd_Model γ _) rfl dX7_lackingIn_40 ?_
          refine v_iconst' X kc_3 dX7_lackingIn_43 ?_
          refine v_iload_n X rfl dX7_lackingIn_44 ?_
          refine v_imul' X (pk_mul _ _) dX7_lackingIn_45 ?_
          refine v_iload_n X rfl dX7_lackingIn_46 ?_
          refine v_iadd' X (nI_add _ _) dX7_lackingIn_47 ?_
          refine v_iald' X (v := ((W.1 10) (((3 * b) + k)))) (rd_M γ _) (((3 * b) + k)) rfl (by omega) (by decide) (vw_at (by omega)) dX7_lackingIn_48 ?_
          refine v_isub X dX7_lackingIn_49 ?_
          refine v_goto (tgt := 54) X dX7_lackingIn_50 (by decide) ?_
          refine v_iadd X dX7_lackingIn_54 ?_
          refine v_istore_n X (Nat.le_of_ble_eq_true rfl) rfl dX7_lackingIn_55 ?_
          refine v_iinc' X rfl rfl (nI_inc _) dX7_lackingIn_56 ?_
          refine v_goto (tgt := 4) X dX7_lackingIn_59 (by decide) ?_
          have hy := ih (k + 1) ⟨by omega, by omega⟩
          rw [hs1] at hy
          exact (hy)
  exact (lp4 4 0 ⟨by omega, by omega⟩)
set_option maxHeartbeats 4000000 in
set_option maxRecDepth 100000 in
theorem c_X7_lacking (l : Launch) (γ : Gm) (W : Wd) (x : Int32) : Cr l γ yX7_lacking cX7_lacking 5 (some .int) 1 23 0 0 [.ref (γ.1 + 86), .int x] (rdw γ W) (Det (some (.int (s_lack (W.1 10) x))) (rdw γ W)) := by
  refine Cr_of [some (.ref (γ.1 + 86)), some (.int x), none, none, none] (by decide +kernel) (Nat.le_of_ble_eq_true rfl) rfl ?_
  intro p e s m args below meth c X
  refine v_q0 (fun Q0 hQ0 => ?_)
  refine v_iload_n X rfl dX7_lacking_0 ?_
  refine v_iconst' X kc_m1 dX7_lacking_1 ?_
  refine v_icmp_ge (tgt := 9) X dX7_lacking_2 (by decide) (fun q1 => ?_) (fun q1 => ?_)
  · refine v_iconst' X kc_0 dX7_lacking_9 ?_
    refine v_istore_n X (Nat.le_of_ble_eq_true rfl) rfl dX7_lacking_10 ?_
    refine v_iconst' X kc_0 dX7_lacking_11 ?_
    refine v_istore_n X (Nat.le_of_ble_eq_true rfl) rfl dX7_lacking_12 ?_
    refine v_iconst' X kc_0 dX7_lacking_13 ?_
    refine v_istore X (Nat.le_of_ble_eq_true rfl) rfl dX7_lacking_14 ?_
    have lp16 : ∀ (n : Nat) (a r : Nat) (k z : Int32), a + r = 40 ∧ r + 1 ≤ n → s_lackF (W.1 10) x r a k z = s_lackF (W.1 10) x 40 0 (nI 0) (nI 0) → V p l e { frames := 1, cells := 0, slots := 0, locals := 23 } s m args below meth c γ Q0 (rdw γ W) 0 0 16 [some (.ref (γ.1 + 86)), some (.int x), some (.int z), some (.int k), some (.int (nI a))] [] := by
      intro n
      induction n with
      | zero =>
        intro a r k z hbd
        exact absurd hbd (by omega)
      | succ n ih =>
        intro a r k z hbd hF
        refine v_iload X rfl dX7_lacking_16 ?_
        refine v_bipush' X kb_40 dX7_lacking_18 ?_
        refine v_icmp_ge_n (tgt := 58) X dX7_lacking_20 (by decide) (by omega) (by omega) (fun c_7 => ?_) (fun c_7 => ?_)
        · have hr : r = 0 := by omega
          subst hr
          refine v_iload_n X rfl dX7_lacking_58 ?_
          refine v_iconst' X kc_m1 dX7_lacking_59 ?_
          refine v_icmp_ne (tgt := 67) X dX7_lacking_60 (by decide) (fun q4 => ?_) (fun q4 => ?_)
          · refine v_sipush' X ks_m1001 dX7_lacking_67 ?_
            subst hQ0
            exact v_iret X rfl (Nat.le_of_ble_eq_true rfl) (Nat.le_of_ble_eq_true rfl) dX7_lacking_70 ⟨so_some (by unfold s_lack; first | rw [if_neg q1] | (rw [if_pos q1, ← hF]; unfold s_lackF; first | (rw [if_neg q2, if_pos q3]) | rw [if_pos q4] | rw [if_neg q4])), rfl⟩
          · refine v_iload_n X rfl dX7_lacking_63 ?_
            refine v_goto (tgt := 70) X dX7_lacking_64 (by decide) ?_
            subst hQ0
            exact v_iret X rfl (Nat.le_of_ble_eq_true rfl) (Nat.le_of_ble_eq_true rfl) dX7_lacking_70 ⟨so_some (by unfold s_lack; first | rw [if_neg q1] | (rw [if_pos q1, ← hF]; unfold s_lackF; first | (rw [if_neg q2, if_pos q3]) | rw [if_pos q4] | rw [if_neg q4])), rfl⟩
        · obtain ⟨r, rfl⟩ : ∃ z, r = z + 1 := ⟨r - 1, by omega⟩
          refine v_aload_n X rfl dX7_lacking_23 ?_
          refine v_iload X rfl dX7_lacking_24 ?_
          refine v_callV (ci := 8) X mv_X7_150 (c_X7_lackingIn l γ _ a (by omega)) rfl rfl (rd_Model γ _) rfl ⟨Nat.le_of_ble_eq_true rfl, Nat.le_of_ble_eq_true rfl, Nat.le_of_ble_eq_true rfl, Nat.le_of_ble_eq_true rfl⟩ (Nat.le_of_ble_eq_true rfl) rfl dX7_lacking_26 rfl (det_i ?_)
          refine v_if_le (tgt := 52) X dX7_lacking_29 (by decide) (fun q2 => ?_) (fun q2 => ?_)
          · have hback := ih (a + 1) r k z ⟨by omega, by omega⟩ (by rw [← hF]; show _ = if _ then _ else _; rw [if_pos q2])
            refine v_iinc' X rfl rfl (nI_inc _) dX7_lacking_52 ?_
            refine v_goto (tgt := 16) X dX7_lacking_55 (by decide) ?_
            exact (hback)
          · refine v_iload_n X rfl dX7_lacking_32 ?_
            refine v_iload_n X rfl dX7_lacking_33 ?_
            refine v_icmp_ne (tgt := 40) X dX7_lacking_34 (by decide) (fun q3 => ?_) (fun q3 => ?_)
            · have hback := ih (a + 1) r (k + Int32.ofInt 1) (z + s_lackIn (W.1 10) a 3) ⟨by omega, by omega⟩ (by rw [← hF]; show _ = if _ then _ else (if _ then _ else _); rw [if_neg q2, if_neg q3])
              refine v_iinc X rfl rfl dX7_lacking_40 ?_
              refine v_iload_n X rfl dX7_lacking_43 ?_
              refine v_aload_n X rfl dX7_lacking_44 ?_
              refine v_iload X rfl dX7_lacking_45 ?_
              refine v_callV (ci := 8) X mv_X7_150 (c_X7_lackingIn l γ _ a (by omega)) rfl rfl (rd_Model γ _) rfl ⟨Nat.le_of_ble_eq_true rfl, Nat.le_of_ble_eq_true rfl, Nat.le_of_ble_eq_true rfl, Nat.le_of_ble_eq_true rfl⟩ (Nat.le_of_ble_eq_true rfl) rfl dX7_lacking_47 rfl (det_i ?_)
              refine v_iadd X dX7_lacking_50 ?_
              refine v_istore_n X (Nat.le_of_ble_eq_true rfl) rfl dX7_lacking_51 ?_
              refine v_iinc' X rfl rfl (nI_inc _) dX7_lacking_52 ?_
              refine v_goto (tgt := 16) X dX7_lacking_55 (by decide) ?_
              exact (hback)
            · refine v_iload X rfl dX7_lacking_37 ?_
              subst hQ0
              exact v_iret X rfl (Nat.le_of_ble_eq_true rfl) (Nat.le_of_ble_eq_true rfl) dX7_lacking_39 ⟨so_some (by unfold s_lack; first | rw [if_neg q1] | (rw [if_pos q1, ← hF]; unfold s_lackF; first | (rw [if_neg q2, if_pos q3]) | rw [if_pos q4] | rw [if_neg q4])), rfl⟩
    exact (lp16 41 0 40 (nI 0) (nI 0) ⟨by omega, by omega⟩ rfl)
  · refine v_sipush' X ks_m1002 dX7_lacking_5 ?_
    subst hQ0
    exact v_iret X rfl (Nat.le_of_ble_eq_true rfl) (Nat.le_of_ble_eq_true rfl) dX7_lacking_8 ⟨so_some (by unfold s_lack; first | rw [if_neg q1] | (rw [if_pos q1, ← hF]; unfold s_lackF; first | (rw [if_neg q2, if_pos q3]) | rw [if_pos q4] | rw [if_neg q4])), rfl⟩
set_option maxHeartbeats 4000000 in
set_option maxRecDepth 100000 in
theorem c_X7_ordered (l : Launch) (γ : Gm) (W : Wd) (q : Nat) (hq : W.1 10 223 = nI q) (h10 : q ≤ 10) (x z : Int32) : Cr l γ yX7_ordered cX7_ordered 3 (some .int) 1 22 0 0 [.ref (γ.1 + 86), .int x, .int z] (rdw γ W) (Det (some (.int (s_ordered (W.1 10) q x z))) (rdw γ W)) := by
  refine Cr_of [some (.ref (γ.1 + 86)), some (.int x), some (.int z)] (by decide +kernel) (Nat.le_of_ble_eq_true rfl) rfl ?_
  intro p e s m args below meth c X
  refine v_q0 (fun Q0 hQ0 => ?_)
  refine v_iload_n X rfl dX7_ordered_0 ?_
  refine v_if_lt (tgt := 13) X dX7_ordered_1 (by decide) (fun q1 => ?_) (fun q1 => ?_)
  · refine v_sipush' X ks_m1002 dX7_ordered_13 ?_
    subst hQ0
    exact v_iret X rfl (Nat.le_of_ble_eq_true rfl) (Nat.le_of_ble_eq_true rfl) dX7_ordered_16 ⟨so_some (by unfold s_ordered; first | rw [if_pos q1] | rw [if_neg q1, if_neg q2] | rw [if_neg q1, if_pos q2, if_pos q3] | (rw [if_neg q1, if_pos q2, if_neg q3, nI_clamp (by omega), nI_clamp (by omega)])), rfl⟩
  · refine v_iload_n X rfl dX7_ordered_4 ?_
    refine v_iconst' X kc_0 dX7_ordered_5 ?_
    refine v_iconst' X kc_4 dX7_ordered_6 ?_
    refine v_callS X ms_X7_29 (c_X7_in l γ _ _ _ _) rfl ⟨Nat.le_of_ble_eq_true rfl, Nat.le_of_ble_eq_true rfl, Nat.le_of_ble_eq_true rfl, Nat.le_of_ble_eq_true rfl⟩ (Nat.le_of_ble_eq_true rfl) rfl dX7_ordered_7 rfl (det_i ?_)
    refine v_if_ne_b (tgt := 17) X dX7_ordered_10 (by decide) (fun q2 => ?_) (fun q2 => ?_)
    · refine v_iload_n X rfl dX7_ordered_17 ?_
      refine v_aload_n X rfl dX7_ordered_18 ?_
      refine v_getf X fd_X7_7 (rd_Model γ _) rfl dX7_ordered_19 ?_
      refine v_sipush' X ks_223 dX7_ordered_22 ?_
      refine v_iald' X (v := nI q) (rd_M γ _) (223) rfl (by omega) (by decide) ((vw_at (by omega)).trans hq) dX7_ordered_25 ?_
      refine v_icmp_ge (tgt := 46) X dX7_ordered_26 (by decide) (fun q3 => ?_) (fun q3 => ?_)
      · refine v_sipush' X ks_m1001 dX7_ordered_46 ?_
        subst hQ0
        exact v_iret X rfl (Nat.le_of_ble_eq_true rfl) (Nat.le_of_ble_eq_true rfl) dX7_ordered_49 ⟨so_some (by unfold s_ordered; first | rw [if_pos q1] | rw [if_neg q1, if_neg q2] | rw [if_neg q1, if_pos q2, if_pos q3] | (rw [if_neg q1, if_pos q2, if_neg q3, nI_clamp (by omega), nI_clamp (by omega)])), rfl⟩
      · obtain ⟨j, hj, rfl⟩ : ∃ j : Nat, j < q ∧ x = nI j := s_ltq (by omega) q1 q3
        obtain ⟨i, hi, rfl⟩ := in_nat (by decide) q2
        refine v_aload_n X rfl dX7_ordered_29 ?_
        refine v_getf X fd_X7_7 (rd_Model γ _) rfl dX7_ordered_30 ?_
        refine v_sipush' X ks_168 dX7_ordered_33 ?_
        refine v_iconst' X kc_5 dX7_ordered_36 ?_
        refine v_iload_n X rfl dX7_ordered_37 ?_
        refine v_imul' X (pk_mul _ _) dX7_ordered_38 ?_
        refine v_iadd' X (nI_add _ _) dX7_ordered_39 ?_
        refine v_iload_n X rfl dX7_ordered_40 ?_
        refine v_iadd' X (nI_add _ _) dX7_ordered_41 ?_
        refine v_iald' X (v := ((W.1 10) (((168 + (5 * j)) + i)))) (rd_M γ _) (((168 + (5 * j)) + i)) rfl (by omega) (by decide) (vw_at (by omega)) dX7_ordered_42 ?_
        refine v_goto (tgt := 49) X dX7_ordered_43 (by decide) ?_
        subst hQ0
        exact v_iret X rfl (Nat.le_of_ble_eq_true rfl) (Nat.le_of_ble_eq_true rfl) dX7_ordered_49 ⟨so_some (by unfold s_ordered; first | rw [if_pos q1] | rw [if_neg q1, if_neg q2] | rw [if_neg q1, if_pos q2, if_pos q3] | (rw [if_neg q1, if_pos q2, if_neg q3, nI_clamp (by omega), nI_clamp (by omega)])), rfl⟩
    · refine v_sipush' X ks_m1002 dX7_ordered_13 ?_
      subst hQ0
      exact v_iret X rfl (Nat.le_of_ble_eq_true rfl) (Nat.le_of_ble_eq_true rfl) dX7_ordered_16 ⟨so_some (by unfold s_ordered; first | rw [if_pos q1] | rw [if_neg q1, if_neg q2] | rw [if_neg q1, if_pos q2, if_pos q3] | (rw [if_neg q1, if_pos q2, if_neg q3, nI_clamp (by omega), nI_clamp (by omega)])), rfl⟩
set_option maxHeartbeats 4000000 in
set_option maxRecDepth 100000 in
theorem c_X7_onTrack (l : Launch) (γ : Gm) (W : Wd) : Cr l γ yX7_onTrack cX7_onTrack 1 (some .int) 1 23 0 0 [.ref (γ.1 + 86)] (rdw γ W) (Det (some (.int (s_onT (W.1 10)))) (rdw γ W)) := by
  refine Cr_of [some (.ref (γ.1 + 86))] (by decide +kernel) (Nat.le_of_ble_eq_true rfl) rfl ?_
  intro p e s m args below meth c X
  refine v_q0 (fun Q0 hQ0 => ?_)
  refine v_aload_n X rfl dX7_onTrack_0 ?_
  refine v_iconst' X kc_0 dX7_onTrack_1 ?_
  refine v_callV (ci := 8) X mv_X7_136 (c_X7_sum l γ _ 0 (by omega)) rfl rfl (rd_Model γ _) rfl ⟨Nat.le_of_ble_eq_true rfl, Nat.le_of_ble_eq_true rfl, Nat.le_of_ble_eq_true rfl, Nat.le_of_ble_eq_true rfl⟩ (Nat.le_of_ble_eq_true rfl) rfl dX7_onTrack_2 rfl (det_i ?_)
  refine v_aload_n X rfl dX7_onTrack_5 ?_
  refine v_iconst' X kc_1 dX7_onTrack_6 ?_
  refine v_callV (ci := 8) X mv_X7_136 (c_X7_sum l γ _ 1 (by omega)) rfl rfl (rd_Model γ _) rfl ⟨Nat.le_of_ble_eq_true rfl, Nat.le_of_ble_eq_true rfl, Nat.le_of_ble_eq_true rfl, Nat.le_of_ble_eq_true rfl⟩ (Nat.le_of_ble_eq_true rfl) rfl dX7_onTrack_7 rfl (det_i ?_)
  refine v_iadd X dX7_onTrack_10 ?_
  refine v_aload_n X rfl dX7_onTrack_11 ?_
  refine v_iconst' X kc_2 dX7_onTrack_12 ?_
  refine v_callV (ci := 8) X mv_X7_136 (c_X7_sum l γ _ 2 (by omega)) rfl rfl (rd_Model γ _) rfl ⟨Nat.le_of_ble_eq_true rfl, Nat.le_of_ble_eq_true rfl, Nat.le_of_ble_eq_true rfl, Nat.le_of_ble_eq_true rfl⟩ (Nat.le_of_ble_eq_true rfl) rfl dX7_onTrack_13 rfl (det_i ?_)
  refine v_iadd X dX7_onTrack_16 ?_
  subst hQ0
  exact v_iret X rfl (Nat.le_of_ble_eq_true rfl) (Nat.le_of_ble_eq_true rfl) dX7_onTrack_17 ⟨rfl, rfl⟩
set_option maxHeartbeats 4000000 in
set_option maxRecDepth 100000 in
theorem c_X7_part (l : Launch) (γ : Gm) (W : Wd) (cn : Nat) (hv : VM (W.1 10) cn) (x : Int32) (hx : ¬ x < nI 0 ∧ ¬ nI 6 < x) : Cr l γ yX7_part cX7_part 2 (some .int) 2 47 0 0 [.ref (γ.1 + 86), .int x] (rdw γ W) (Det (some (.int (s_partN (W.1 10) cn x.toNatClampNeg))) (rdw γ W)) := by
  refine Cr_of [some (.ref (γ.1 + 86)), some (.int x)] (by decide +kernel) (Nat.le_of_ble_eq_true rfl) rfl ?_
  intro p e s m args below meth c X
  refine v_q0 (fun Q0 hQ0 => ?_)
  refine v_iload_n X rfl dX7_part_0 ?_
  by_cases hsw : ¬ x < nI 0 ∧ ¬ nI 5 < x
  · obtain ⟨jj, hjj, rfl⟩ := in_nat (by decide) hsw
    rcases (by omega : jj = 0 ∨ jj = 1 ∨ jj = 2 ∨ jj = 3 ∨ jj = 4 ∨ jj = 5) with rfl | rfl | rfl | rfl | rfl | rfl
    · refine v_tableIn (tgt := 40) (off := 39) X dX7_part_1 (by decide) (by decide) (by decide) (by decide) ?_
      refine v_aload_n X rfl dX7_part_40 ?_
      refine v_getf X fd_X7_7 (rd_Model γ _) rfl dX7_part_41 ?_
      refine v_sipush' X ks_219 dX7_part_44 ?_
      refine v_iald' X (v := ((W.1 10) (219))) (rd_M γ _) (219) rfl (by omega) (by decide) (vw_at (by omega)) dX7_part_47 ?_
      subst hQ0
      exact v_iret X rfl (Nat.le_of_ble_eq_true rfl) (Nat.le_of_ble_eq_true rfl) dX7_part_48 ⟨so_some (by rw [nI_clamp (by decide)]; rfl), rfl⟩
    · refine v_tableIn (tgt := 49) (off := 48) X dX7_part_1 (by decide) (by decide) (by decide) (by decide) ?_
      refine v_aload_n X rfl dX7_part_49 ?_
      refine v_callV (ci := 8) X mv_X7_127 (c_X7_inWagons' l γ _ cn (by exact hv)) rfl rfl (rd_Model γ _) rfl ⟨Nat.le_of_ble_eq_true rfl, Nat.le_of_ble_eq_true rfl, Nat.le_of_ble_eq_true rfl, Nat.le_of_ble_eq_true rfl⟩ (Nat.le_of_ble_eq_true rfl) rfl dX7_part_50 rfl (det_i ?_)
      try simp (disch := decide) only [ws_11_10, ws_12_10, ws_12_11, ws_13_10, ws_13_11, ws_13_12, ws_14_10, ws_14_11, ws_14_12, ws_14_13, ws_15_10, ws_15_11, ws_15_12, ws_15_13, ws_15_14, wset_wset, ws_same, ws_ne, wh_ws]
      subst hQ0
      exact v_iret X rfl (Nat.le_of_ble_eq_true rfl) (Nat.le_of_ble_eq_true rfl) dX7_part_53 ⟨so_some (by rw [nI_clamp (by decide)]; rfl), rfl⟩
    · refine v_tableIn (tgt := 54) (off := 53) X dX7_part_1 (by decide) (by decide) (by decide) (by decide) ?_
      refine v_aload_n X rfl dX7_part_54 ?_
      refine v_callV (ci := 8) X mv_X7_153 (c_X7_onTrack l γ _) rfl rfl (rd_Model γ _) rfl ⟨Nat.le_of_ble_eq_true rfl, Nat.le_of_ble_eq_true rfl, Nat.le_of_ble_eq_true rfl, Nat.le_of_ble_eq_true rfl⟩ (Nat.le_of_ble_eq_true rfl) rfl dX7_part_55 rfl (det_i ?_)
      subst hQ0
      exact v_iret X rfl (Nat.le_of_ble_eq_true rfl) (Nat.le_of_ble_eq_true rfl) dX7_part_58 ⟨so_some (by rw [nI_clamp (by decide)]; rfl), rfl⟩
    · refine v_tableIn (tgt := 59) (off := 58) X dX7_part_1 (by decide) (by decide) (by decide) (by decide) ?_
      refine v_aload_n X rfl dX7_part_59 ?_
      refine v_getf X fd_X7_7 (rd_Model γ _) rfl dX7_part_60 ?_
      refine v_sipush' X ks_226 dX7_part_63 ?_
      refine v_iald' X (v := ((W.1 10) (226))) (rd_M γ _) (226) rfl (by omega) (by decide) (vw_at (by omega)) dX7_part_66 ?_
      subst hQ0
      exact v_iret X rfl (Nat.le_of_ble_eq_true rfl) (Nat.le_of_ble_eq_true rfl) dX7_part_67 ⟨so_some (by rw [nI_clamp (by decide)]; rfl), rfl⟩
    · refine v_tableIn (tgt := 68) (off := 67) X dX7_part_1 (by decide) (by decide) (by decide) (by decide) ?_
      refine v_aload_n X rfl dX7_part_68 ?_
      refine v_getf X fd_X7_7 (rd_Model γ _) rfl dX7_part_69 ?_
      refine v_sipush' X ks_224 dX7_part_72 ?_
      refine v_iald' X (v := ((W.1 10) (224))) (rd_M γ _) (224) rfl (by omega) (by decide) (vw_at (by omega)) dX7_part_75 ?_
      subst hQ0
      exact v_iret X rfl (Nat.le_of_ble_eq_true rfl) (Nat.le_of_ble_eq_true rfl) dX7_part_76 ⟨so_some (by rw [nI_clamp (by decide)]; rfl), rfl⟩
    · refine v_tableIn (tgt := 77) (off := 76) X dX7_part_1 (by decide) (by decide) (by decide) (by decide) ?_
      refine v_aload_n X rfl dX7_part_77 ?_
      refine v_iconst' X kc_m1 dX7_part_78 ?_
      refine v_callV (ci := 8) X mv_X7_156 (c_X7_lacking l γ _ _) rfl rfl (rd_Model γ _) rfl ⟨Nat.le_of_ble_eq_true rfl, Nat.le_of_ble_eq_true rfl, Nat.le_of_ble_eq_true rfl, Nat.le_of_ble_eq_true rfl⟩ (Nat.le_of_ble_eq_true rfl) rfl dX7_part_79 rfl (det_i ?_)
      subst hQ0
      exact v_iret X rfl (Nat.le_of_ble_eq_true rfl) (Nat.le_of_ble_eq_true rfl) dX7_part_82 ⟨so_some (by rw [nI_clamp (by decide)]; rfl), rfl⟩
  · refine v_tableOut (tgt := 83) X dX7_part_1 (sw_out (by decide) hsw) (by decide) ?_
    refine v_aload_n X rfl dX7_part_83 ?_
    refine v_getf X fd_X7_7 (rd_Model γ _) rfl dX7_part_84 ?_
    refine v_sipush' X ks_223 dX7_part_87 ?_
    refine v_iald' X (v := ((W.1 10) (223))) (rd_M γ _) (223) rfl (by omega) (by decide) (vw_at (by omega)) dX7_part_90 ?_
    subst hQ0
    exact v_iret X rfl (Nat.le_of_ble_eq_true rfl) (Nat.le_of_ble_eq_true rfl) dX7_part_91 ⟨so_some (by obtain ⟨j, hj, rfl⟩ := in_nat (by decide) hx; have h6 : j = 6 := s_eq6 hj hsw; subst h6; rw [nI_clamp (by decide)]; rfl), rfl⟩
