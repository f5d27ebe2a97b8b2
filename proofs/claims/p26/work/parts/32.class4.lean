set_option maxHeartbeats 4000000 in
set_option maxRecDepth 100000 in
theorem c_X5_closeFurther (l : Launch) (γ : Gm) (w : Wd) (g : Nat → Int32) (k : Nat) (hk : k < 8) (cn : Nat) (h6 : cn ≤ 6) (hw : NW g cn) : Cr l γ yX5_closeFurther cX5_closeFurther 5 (some .int) 0 0 0 0 [.ref (γ.1 + so k + 4), .int (g 231)] (rdw γ (wset w k g)) (Det (some (.int (q_closesN g (3 * cn) 224 - g 224))) (rdw γ (wset w k (upd (q_closesN g (3 * cn)) 224 (g 224))))) := by
  refine Cr_of [some (.ref (γ.1 + so k + 4)), some (.int (g 231)), none, none, none] (by decide +kernel) (Nat.le_of_ble_eq_true rfl) rfl ?_
  intro p e s m args below meth c X
  refine v_q0 (fun Q0 hQ0 => ?_)
  refine v_iconst' X kc_0 dX5_closeFurther_0 ?_
  refine v_istore_n X (Nat.le_of_ble_eq_true rfl) rfl dX5_closeFurther_1 ?_
  refine v_iconst' X kc_0 dX5_closeFurther_2 ?_
  refine v_istore_n X (Nat.le_of_ble_eq_true rfl) rfl dX5_closeFurther_3 ?_
  have lp4 : ∀ (n : Nat) (j : Nat), j ≤ 18 ∧ 19 ≤ j + n → V p l e { frames := 0, cells := 0, slots := 0, locals := 0 } s m args below meth c γ Q0 (rdw γ (wset w k (k_A g j))) 0 0 4 [some (.ref (γ.1 + so k + 4)), some (.int (g 231)), some (.int (k_U g j)), some (.int (nI j)), none] [] := by
    intro n
    induction n with
    | zero =>
      intro j hbd
      exact absurd hbd (by omega)
    | succ n ih =>
      intro j hbd
      refine v_iload_n X rfl dX5_closeFurther_4 ?_
      refine v_bipush' X kb_18 dX5_closeFurther_5 ?_
      refine v_icmp_ge_n (tgt := 104) X dX5_closeFurther_7 (by decide) (by omega) (by omega) (fun c_7 => ?_) (fun c_7 => ?_)
      · have hj : 18 = j := by omega
        subst hj
        refine v_iload_n X rfl dX5_closeFurther_104 ?_
        subst hQ0
        exact v_iret X rfl (Nat.le_of_ble_eq_true rfl) (Nat.le_of_ble_eq_true rfl) dX5_closeFurther_105 ⟨so_some (by unfold k_U; rw [k_end hw 18 (by omega) (by omega)]), by unfold k_A; rw [k_end hw 18 (by omega) (by omega)]⟩
      · refine v_aload_n X rfl dX5_closeFurther_10 ?_
        refine v_getf X fd_X5_34 (rd_Train γ _ _ hk) rfl dX5_closeFurther_11 ?_
        refine v_iload_n X rfl dX5_closeFurther_14 ?_
        refine v_iald' X (v := (k_A g j (f_rest j))) (rd_Rest γ _ _ hk) (j) rfl (by omega) (by decide) (vw_at (by omega)) dX5_closeFurther_15 ?_
        rw [f_restJ]
        refine v_if_le (tgt := 32) X dX5_closeFurther_16 (by decide) (fun q1 => ?_) (fun q1 => ?_)
        · refine v_aload_n X rfl dX5_closeFurther_32 ?_
          refine v_getf X fd_X5_34 (rd_Train γ _ _ hk) rfl dX5_closeFurther_33 ?_
          refine v_iload_n X rfl dX5_closeFurther_36 ?_
          refine v_iald' X (v := (k_A g j (f_rest j))) (rd_Rest γ _ _ hk) (j) rfl (by omega) (by decide) (vw_at (by omega)) dX5_closeFurther_37 ?_
          rw [f_restJ]
          refine v_if_ne (tgt := 98) X dX5_closeFurther_38 (by decide) (fun q2 => ?_) (fun q2 => ?_)
          · have hE := k_n (g := g) (j := j) (by omega) q1 q2
            refine v_iinc' X rfl rfl (nI_inc _) dX5_closeFurther_98 ?_
            refine v_goto (tgt := 4) X dX5_closeFurther_101 (by decide) ?_
            have hy := ih (j + 1) ⟨by omega, by omega⟩
            rw [hE.1, hE.2] at hy
            exact v_Ln (hy) ⟨Or.inr rfl, Or.inr rfl, Or.inr rfl, Or.inr rfl, Or.inl rfl, trivial⟩
          · refine v_aload_n X rfl dX5_closeFurther_41 ?_
            refine v_getf X fd_X5_24 (rd_Train γ _ _ hk) rfl dX5_closeFurther_42 ?_
            refine v_iload_n X rfl dX5_closeFurther_45 ?_
            refine v_iconst' X kc_3 dX5_closeFurther_46 ?_
            refine v_idiv' X (by omega) (by decide) (by decide) dX5_closeFurther_47 ?_
            refine v_iald' X (v := ((k_A g j) (120 + 8 * ((j / 3))))) (rd_Load γ _ _ hk) ((j / 3)) rfl (by omega) (by decide) (vw_at (by omega)) dX5_closeFurther_48 ?_
            refine v_iload_n X rfl dX5_closeFurther_49 ?_
            refine v_icmp_le (tgt := 57) X dX5_closeFurther_50 (by decide) (fun q3 => ?_) (fun q3 => ?_)
            · have hE := k_z (g := g) (j := j) (u := nI 0) (by omega) q2 (if_pos q3)
              refine v_iconst' X kc_0 dX5_closeFurther_57 ?_
              refine v_istore X (Nat.le_of_ble_eq_true rfl) rfl dX5_closeFurther_58 ?_
              refine v_aload_n X rfl dX5_closeFurther_60 ?_
              refine v_getf X fd_X5_31 (rd_Train γ _ _ hk) rfl dX5_closeFurther_61 ?_
              refine v_iload_n X rfl dX5_closeFurther_64 ?_
              refine v_iload X rfl dX5_closeFurther_65 ?_
              refine v_if_eq_t (tgt := 74) X dX5_closeFurther_67 (by decide) (by decide) ?_
              refine v_iconst' X kc_0 dX5_closeFurther_74 ?_
              refine v_iast X (rd_Level γ _ _ hk) (j) rfl (by omega) (by decide) dX5_closeFurther_75 ?_
              refine v_eqh (up_lev γ _ _ hk (by omega) _) ?_
              rw [f_levJ]
              refine v_aload_n X rfl dX5_closeFurther_76 ?_
              refine v_getf X fd_X5_34 (rd_Train γ _ _ hk) rfl dX5_closeFurther_77 ?_
              refine v_iload_n X rfl dX5_closeFurther_80 ?_
              refine v_sipush' X ks_m1001 dX5_closeFurther_81 ?_
              refine v_iast X (rd_Rest γ _ _ hk) (j) rfl (by omega) (by decide) dX5_closeFurther_84 ?_
              refine v_eqh (up_rest γ _ _ hk (by omega) _) ?_
              rw [f_restJ]
              refine v_iload_n X rfl dX5_closeFurther_85 ?_
              refine v_iload X rfl dX5_closeFurther_86 ?_
              refine v_if_eq_t (tgt := 95) X dX5_closeFurther_88 (by decide) (by decide) ?_
              refine v_iconst' X kc_0 dX5_closeFurther_95 ?_
              refine v_iadd X dX5_closeFurther_96 ?_
              refine v_istore_n X (Nat.le_of_ble_eq_true rfl) rfl dX5_closeFurther_97 ?_
              refine v_iinc' X rfl rfl (nI_inc _) dX5_closeFurther_98 ?_
              refine v_goto (tgt := 4) X dX5_closeFurther_101 (by decide) ?_
              have hy := ih (j + 1) ⟨by omega, by omega⟩
              rw [hE.1, hE.2] at hy
              exact v_Ln (hy) ⟨Or.inr rfl, Or.inr rfl, Or.inr rfl, Or.inr rfl, Or.inl rfl, trivial⟩
            · have hE := k_z (g := g) (j := j) (u := nI 1) (by omega) q2 (if_neg q3)
              refine v_iconst' X kc_1 dX5_closeFurther_53 ?_
              refine v_goto (tgt := 58) X dX5_closeFurther_54 (by decide) ?_
              refine v_istore X (Nat.le_of_ble_eq_true rfl) rfl dX5_closeFurther_58 ?_
              refine v_aload_n X rfl dX5_closeFurther_60 ?_
              refine v_getf X fd_X5_31 (rd_Train γ _ _ hk) rfl dX5_closeFurther_61 ?_
              refine v_iload_n X rfl dX5_closeFurther_64 ?_
              refine v_iload X rfl dX5_closeFurther_65 ?_
              refine v_if_eq_f (tgt := 74) X dX5_closeFurther_67 (by decide) (by decide) ?_
              refine v_iconst' X kc_1 dX5_closeFurther_70 ?_
              refine v_goto (tgt := 75) X dX5_closeFurther_71 (by decide) ?_
              refine v_iast X (rd_Level γ _ _ hk) (j) rfl (by omega) (by decide) dX5_closeFurther_75 ?_
              refine v_eqh (up_lev γ _ _ hk (by omega) _) ?_
              rw [f_levJ]
              refine v_aload_n X rfl dX5_closeFurther_76 ?_
              refine v_getf X fd_X5_34 (rd_Train γ _ _ hk) rfl dX5_closeFurther_77 ?_
              refine v_iload_n X rfl dX5_closeFurther_80 ?_
              refine v_sipush' X ks_m1001 dX5_closeFurther_81 ?_
              refine v_iast X (rd_Rest γ _ _ hk) (j) rfl (by omega) (by decide) dX5_closeFurther_84 ?_
              refine v_eqh (up_rest γ _ _ hk (by omega) _) ?_
              rw [f_restJ]
              refine v_iload_n X rfl dX5_closeFurther_85 ?_
              refine v_iload X rfl dX5_closeFurther_86 ?_
              refine v_if_eq_f (tgt := 95) X dX5_closeFurther_88 (by decide) (by decide) ?_
              refine v_iconst' X kc_1 dX5_closeFurther_91 ?_
              refine v_goto (tgt := 96) X dX5_closeFurther_92 (by decide) ?_
              refine v_iadd X dX5_closeFurther_96 ?_
              refine v_istore_n X (Nat.le_of_ble_eq_true rfl) rfl dX5_closeFurther_97 ?_
              refine v_iinc' X rfl rfl (nI_inc _) dX5_closeFurther_98 ?_
              refine v_goto (tgt := 4) X dX5_closeFurther_101 (by decide) ?_
              have hy := ih (j + 1) ⟨by omega, by omega⟩
              rw [hE.1, hE.2] at hy
              exact v_Ln (hy) ⟨Or.inr rfl, Or.inr rfl, Or.inr rfl, Or.inr rfl, Or.inl rfl, trivial⟩
        · have hE := k_p (g := g) (j := j) (by omega) q1
          refine v_aload_n X rfl dX5_closeFurther_19 ?_
          refine v_getf X fd_X5_34 (rd_Train γ _ _ hk) rfl dX5_closeFurther_20 ?_
          refine v_iload_n X rfl dX5_closeFurther_23 ?_
          refine v_dup2 X rfl rfl dX5_closeFurther_24 ?_
          refine v_iald' X (v := (k_A g j (f_rest j))) (rd_Rest γ _ _ hk) (j) rfl (by omega) (by decide) (vw_at (by omega)) dX5_closeFurther_25 ?_
          rw [f_restJ]
          refine v_iconst' X kc_1 dX5_closeFurther_26 ?_
          refine v_isub X dX5_closeFurther_27 ?_
          refine v_iast X (rd_Rest γ _ _ hk) (j) rfl (by omega) (by decide) dX5_closeFurther_28 ?_
          refine v_eqh (up_rest γ _ _ hk (by omega) _) ?_
          rw [f_restJ]
          refine v_goto (tgt := 98) X dX5_closeFurther_29 (by decide) ?_
          refine v_iinc' X rfl rfl (nI_inc _) dX5_closeFurther_98 ?_
          refine v_goto (tgt := 4) X dX5_closeFurther_101 (by decide) ?_
          have hy := ih (j + 1) ⟨by omega, by omega⟩
          rw [hE.1, hE.2] at hy
          exact v_Ln (hy) ⟨Or.inr rfl, Or.inr rfl, Or.inr rfl, Or.inr rfl, Or.inl rfl, trivial⟩
  have hy := lp4 19 0 ⟨by omega, by omega⟩
  rw [k_A0, k_U0] at hy
  exact v_Ln (hy) ⟨Or.inr rfl, Or.inr rfl, Or.inr rfl, Or.inr rfl, Or.inl rfl, trivial⟩
set_option maxHeartbeats 4000000 in
set_option maxRecDepth 100000 in
theorem c_X2_land (l : Launch) (γ : Gm) (w : Wd) (g : Nat → Int32) (k : Nat) (hk : k < 8) (x : Int32) (b : Nat) (hb : b < 3) (z : Int32) : Cr l γ yX2_land cX2_land 4 none 2 44 0 0 [.ref (γ.1 + so k), .int x, .int (nI b), .int z] (rdw γ (wset w k g)) (Det none (rdw γ (wset w k (c_land g x b z)))) := by
  refine Cr_of [some (.ref (γ.1 + so k)), some (.int x), some (.int (nI b)), some (.int z)] (by decide +kernel) (Nat.le_of_ble_eq_true rfl) rfl ?_
  intro p e s m args below meth c X
  refine v_q0 (fun Q0 hQ0 => ?_)
  refine v_iload_n X rfl dX2_land_0 ?_
  refine v_iload_n X rfl dX2_land_1 ?_
  refine v_callS X ms_X2_104 (c_X4_has l γ _ _ _) rfl ⟨Nat.le_of_ble_eq_true rfl, Nat.le_of_ble_eq_true rfl, Nat.le_of_ble_eq_true rfl, Nat.le_of_ble_eq_true rfl⟩ (Nat.le_of_ble_eq_true rfl) rfl dX2_land_2 rfl (det_i ?_)
  refine v_if_eq_b (tgt := 21) X dX2_land_5 (by decide) (fun q1 => ?_) (fun q1 => ?_)
  · refine v_aload_n X rfl dX2_land_21 ?_
    refine v_dup X rfl dX2_land_22 ?_
    refine v_getf X (v := .int (g 226)) fd_X2_46 (rd_State γ _ _ hk) rfl dX2_land_23 ?_
    refine v_iload_n X rfl dX2_land_26 ?_
    refine v_iadd X dX2_land_27 ?_
    refine v_putf X fp_X2_46 (rd_State γ _ _ hk) rfl rfl (Nat.le_of_ble_eq_true rfl) dX2_land_28 ?_
    refine v_eqh (up_lost γ _ _ hk _) ?_
    subst hQ0
    exact v_vret X rfl (Nat.le_of_ble_eq_true rfl) (Nat.le_of_ble_eq_true rfl) dX2_land_31 ⟨rfl, by unfold c_land; first | rw [if_pos q1.1, ej] | rw [if_neg (fun z9 => q1 ⟨z9, nI_in0 (by omega) (by decide)⟩)]⟩
  · obtain ⟨j, hj, rfl⟩ := in_nat (by decide) q1.1
    have ej : (nI j).toNatClampNeg = j := nI_clamp (by omega)
    refine v_aload_n X rfl dX2_land_8 ?_
    refine v_getf X fd_X2_18 (rd_State γ _ _ hk) rfl dX2_land_9 ?_
    refine v_iload_n X rfl dX2_land_12 ?_
    refine v_iload_n X rfl dX2_land_13 ?_
    refine v_iload_n X rfl dX2_land_14 ?_
    refine v_callV (ci := 4) X mv_X2_108 (c_X4_add l γ w g k hk j b (by omega) (by omega) _) rfl rfl (rd_Track γ _ _ hk) rfl ⟨Nat.le_of_ble_eq_true rfl, Nat.le_of_ble_eq_true rfl, Nat.le_of_ble_eq_true rfl, Nat.le_of_ble_eq_true rfl⟩ (Nat.le_of_ble_eq_true rfl) rfl dX2_land_15 rfl (det_v ?_)
    refine v_goto (tgt := 31) X dX2_land_18 (by decide) ?_
    subst hQ0
    exact v_vret X rfl (Nat.le_of_ble_eq_true rfl) (Nat.le_of_ble_eq_true rfl) dX2_land_31 ⟨rfl, by unfold c_land; first | rw [if_pos q1.1, ej] | rw [if_neg (fun z9 => q1 ⟨z9, nI_in0 (by omega) (by decide)⟩)]⟩
set_option maxHeartbeats 4000000 in
set_option maxRecDepth 100000 in
theorem c_X2_unload (l : Launch) (γ : Gm) (w : Wd) (g : Nat → Int32) (k : Nat) (hk : k < 8) (cn : Nat) (hc : g 218 = nI cn) (h6 : cn ≤ 6) : Cr l γ yX2_unload cX2_unload 3 none 3 67 0 0 [.ref (γ.1 + so k)] (rdw γ (wset w k g)) (Det none (rdw γ (wset w k (q_fallsN g (3 * cn))))) := by
  refine Cr_of [some (.ref (γ.1 + so k)), none, none] (by decide +kernel) (Nat.le_of_ble_eq_true rfl) rfl ?_
  intro p e s m args below meth c X
  refine v_q0 (fun Q0 hQ0 => ?_)
  refine v_iconst' X kc_0 dX2_unload_0 ?_
  refine v_istore_n X (Nat.le_of_ble_eq_true rfl) rfl dX2_unload_1 ?_
  have lp2 : ∀ (n : Nat) (a : Nat), a ≤ cn ∧ cn + 1 ≤ a + n → V p l e { frames := 3, cells := 0, slots := 0, locals := 67 } s m args below meth c γ Q0 (rdw γ (wset w k (q_fallsN g (3 * a)))) 0 0 2 [some (.ref (γ.1 + so k)), some (.int (nI a)), none] [] := by
    intro n
    induction n with
    | zero =>
      intro a hbd
      exact absurd hbd (by omega)
    | succ n ih =>
      intro a hbd
      refine v_iload_n X rfl dX2_unload_2 ?_
      refine v_aload_n X rfl dX2_unload_3 ?_
      refine v_getf X fd_X2_25 (rd_State γ _ _ hk) rfl dX2_unload_4 ?_
      refine v_getf X (v := .int ((q_fallsN g (3 * a)) 218)) fd_X2_90 (rd_Train γ _ _ hk) rfl dX2_unload_7 ?_
      rw [q_fallsN_off g (by omega) (by omega) (by omega), hc]
      refine v_icmp_ge_n (tgt := 54) X dX2_unload_10 (by decide) (by omega) (by omega) (fun c_7 => ?_) (fun c_7 => ?_)
      · have hj : cn = a := by omega
        subst hj
        subst hQ0
        exact v_vret X rfl (Nat.le_of_ble_eq_true rfl) (Nat.le_of_ble_eq_true rfl) dX2_unload_54 ⟨rfl, rfl⟩
      · refine v_iconst' X kc_0 dX2_unload_13 ?_
        refine v_istore_n X (Nat.le_of_ble_eq_true rfl) rfl dX2_unload_14 ?_
        have lp15 : ∀ (n2 : Nat) (b : Nat), b ≤ 3 ∧ 4 ≤ b + n2 → V p l e { frames := 3, cells := 0, slots := 0, locals := 67 } s m args below meth c γ Q0 (rdw γ (wset w k (q_fallsN g (3 * a + b)))) 0 0 15 [some (.ref (γ.1 + so k)), some (.int (nI a)), some (.int (nI b))] [] := by
          intro n2
          induction n2 with
          | zero =>
            intro b hbd2
            exact absurd hbd2 (by omega)
          | succ n2 ih2 =>
            intro b hbd2
            refine v_iload_n X rfl dX2_unload_15 ?_
            refine v_iconst' X kc_3 dX2_unload_16 ?_
            refine v_icmp_ge_n (tgt := 48) X dX2_unload_17 (by decide) (by omega) (by omega) (fun c_8 => ?_) (fun c_8 => ?_)
            · have hj : 3 = b := by omega
              subst hj
              refine v_iinc' X rfl rfl (nI_inc _) dX2_unload_48 ?_
              refine v_goto (tgt := 2) X dX2_unload_51 (by decide) ?_
              exact v_Ln (ih (a + 1) ⟨by omega, by omega⟩) ⟨Or.inr rfl, Or.inr rfl, Or.inl rfl, trivial⟩
            · refine v_aload_n X rfl dX2_unload_20 ?_
              refine v_aload_n X rfl dX2_unload_21 ?_
              refine v_getf X fd_X2_25 (rd_State γ _ _ hk) rfl dX2_unload_22 ?_
              refine v_iload_n X rfl dX2_unload_25 ?_
              refine v_callV (ci := 5) X mv_X2_93 (c_X5_cellBelow l γ w (q_fallsN g (3 * a + b)) k hk a (by omega)) rfl rfl (rd_Train γ _ _ hk) rfl ⟨Nat.le_of_ble_eq_true rfl, Nat.le_of_ble_eq_true rfl, Nat.le_of_ble_eq_true rfl, Nat.le_of_ble_eq_true rfl⟩ (Nat.le_of_ble_eq_true rfl) rfl dX2_unload_26 rfl (det_i ?_)
              refine v_iload_n X rfl dX2_unload_29 ?_
              refine v_aload_n X rfl dX2_unload_30 ?_
              refine v_getf X fd_X2_25 (rd_State γ _ _ hk) rfl dX2_unload_31 ?_
              refine v_iload_n X rfl dX2_unload_34 ?_
              refine v_iload_n X rfl dX2_unload_35 ?_
              refine v_callV (ci := 5) X mv_X2_96 (c_X5_drop l γ w (q_fallsN g (3 * a + b)) k hk cn ((q_fallsN_off g (by omega) (by omega) (by omega)).trans hc) h6 a b (by omega) (by omega)) rfl rfl (rd_Train γ _ _ hk) rfl ⟨Nat.le_of_ble_eq_true rfl, Nat.le_of_ble_eq_true rfl, Nat.le_of_ble_eq_true rfl, Nat.le_of_ble_eq_true rfl⟩ (Nat.le_of_ble_eq_true rfl) rfl dX2_unload_36 rfl (det_i ?_)
              refine v_callV (ci := 2) X mv_X2_100 (c_X2_land l γ w (q_f2 (q_fallsN g (3 * a + b)) a b) k hk _ b (by omega) _) rfl rfl (rd_State γ _ _ hk) rfl ⟨Nat.le_of_ble_eq_true rfl, Nat.le_of_ble_eq_true rfl, Nat.le_of_ble_eq_true rfl, Nat.le_of_ble_eq_true rfl⟩ (Nat.le_of_ble_eq_true rfl) rfl dX2_unload_39 rfl (det_v ?_)
              rw [fall_land _ (by omega), q_fallsN_S g (by omega)]
              refine v_iinc' X rfl rfl (nI_inc _) dX2_unload_42 ?_
              refine v_goto (tgt := 15) X dX2_unload_45 (by decide) ?_
              exact (ih2 (b + 1) ⟨by omega, by omega⟩)
        exact (lp15 4 0 ⟨by omega, by omega⟩)
  exact v_Ln (lp2 (cn + 1) 0 ⟨by omega, by omega⟩) ⟨Or.inr rfl, Or.inr rfl, Or.inl rfl, trivial⟩
