set_option maxHeartbeats 4000000 in
set_option maxRecDepth 100000 in
theorem c_X6_sum (l : Launch) (γ : Gm) (h : HP) (q N : Nat) (f : Nat → Int32) (hN : N ≤ 200) (hq : h.1 q = some (iE γ N f)) : Cr l γ yX6_sum cX6_sum 6 (some .int) 0 0 0 0 [.ref q] (h) (Det (some (.int (c_sum f N))) h) := by
  refine Cr_of [some (.ref q), none, none, none, none, none] (by decide +kernel) (Nat.le_of_ble_eq_true rfl) rfl ?_
  intro p e s m args below meth c X
  refine v_q0 (fun Q0 hQ0 => ?_)
  refine v_iconst' X kc_0 dX6_sum_0 ?_
  refine v_istore_n X (Nat.le_of_ble_eq_true rfl) rfl dX6_sum_1 ?_
  refine v_aload_n X rfl dX6_sum_2 ?_
  refine v_astore_n X (Nat.le_of_ble_eq_true rfl) rfl dX6_sum_3 ?_
  refine v_aload_n X rfl dX6_sum_4 ?_
  refine v_alen (t0 := 0) X hq rfl dX6_sum_5 ?_
  refine v_istore_n X (Nat.le_of_ble_eq_true rfl) rfl dX6_sum_6 ?_
  refine v_iconst' X kc_0 dX6_sum_7 ?_
  refine v_istore X (Nat.le_of_ble_eq_true rfl) rfl dX6_sum_8 ?_
  have lp10 : ∀ (n : Nat) (j : Nat), j ≤ N ∧ N + 1 ≤ j + n → V p l e { frames := 0, cells := 0, slots := 0, locals := 0 } s m args below meth c γ Q0 (h) 0 0 10 [some (.ref q), some (.int (c_sum f j)), some (.ref q), some (.int (nI N)), some (.int (nI j)), none] [] := by
    intro n
    induction n with
    | zero =>
      intro j hbd
      exact absurd hbd (by omega)
    | succ n ih =>
      intro j hbd
      refine v_iload X rfl dX6_sum_10 ?_
      refine v_iload_n X rfl dX6_sum_12 ?_
      refine v_icmp_ge_n (tgt := 33) X dX6_sum_13 (by decide) (by omega) (by omega) (fun c_7 => ?_) (fun c_7 => ?_)
      · have hj : N = j := by omega
        subst hj
        refine v_iload_n X rfl dX6_sum_33 ?_
        subst hQ0
        exact v_iret X rfl (Nat.le_of_ble_eq_true rfl) (Nat.le_of_ble_eq_true rfl) dX6_sum_34 ⟨rfl, rfl⟩
      · refine v_aload_n X rfl dX6_sum_16 ?_
        refine v_iload X rfl dX6_sum_17 ?_
        refine v_iald' X (v := f j) hq (j) rfl (by omega) (by omega) rfl dX6_sum_19 ?_
        refine v_istore X (Nat.le_of_ble_eq_true rfl) rfl dX6_sum_20 ?_
        refine v_iload_n X rfl dX6_sum_22 ?_
        refine v_iload X rfl dX6_sum_23 ?_
        refine v_iadd X dX6_sum_25 ?_
        refine v_istore_n X (Nat.le_of_ble_eq_true rfl) rfl dX6_sum_26 ?_
        refine v_iinc' X rfl rfl (nI_inc _) dX6_sum_27 ?_
        refine v_goto (tgt := 10) X dX6_sum_30 (by decide) ?_
        exact v_Ln (ih (j + 1) ⟨by omega, by omega⟩) ⟨Or.inr rfl, Or.inr rfl, Or.inr rfl, Or.inr rfl, Or.inr rfl, Or.inl rfl, trivial⟩
  exact v_Ln (lp10 (N + 1) 0 ⟨by omega, by omega⟩) ⟨Or.inr rfl, Or.inr rfl, Or.inr rfl, Or.inr rfl, Or.inr rfl, Or.inl rfl, trivial⟩
set_option maxHeartbeats 4000000 in
set_option maxRecDepth 100000 in
theorem c_X4_units (l : Launch) (γ : Gm) (w : Wd) (g : Nat → Int32) (k : Nat) (hk : k < 8) : Cr l γ yX4_units cX4_units 1 (some .int) 1 25 0 0 [.ref (γ.1 + so k + 2)] (rdw γ (wset w k g)) (Det (some (.int (s_onT g))) (rdw γ (wset w k (g)))) := by
  refine Cr_of [some (.ref (γ.1 + so k + 2))] (by decide +kernel) (Nat.le_of_ble_eq_true rfl) rfl ?_
  intro p e s m args below meth c X
  refine v_q0 (fun Q0 hQ0 => ?_)
  refine v_aload_n X rfl dX4_units_0 ?_
  refine v_getf X fd_X4_9 (rd_Track γ _ _ hk) rfl dX4_units_1 ?_
  refine v_callSN X msn_X4_19 (c_X6_sum l γ _ _ 120 (vw 120 f_hts g) (by decide) (rd_Heights γ w g hk)) rfl ⟨Nat.le_of_ble_eq_true rfl, Nat.le_of_ble_eq_true rfl, Nat.le_of_ble_eq_true rfl, Nat.le_of_ble_eq_true rfl⟩ (Nat.le_of_ble_eq_true rfl) rfl dX4_units_4 rfl (det_i ?_)
  subst hQ0
  exact v_iret X rfl (Nat.le_of_ble_eq_true rfl) (Nat.le_of_ble_eq_true rfl) dX4_units_7 ⟨so_some (c_units g), rfl⟩
set_option maxHeartbeats 4000000 in
set_option maxRecDepth 100000 in
theorem c_X4_slide (l : Launch) (γ : Gm) (w : Wd) (g : Nat → Int32) (k : Nat) (hk : k < 8) (B : Int) (hB : HB g B) (hB2 : B < 1000000000) (hz : 0 ≤ (g 228).toInt) : Cr l γ yX4_slide cX4_slide 4 none 0 0 0 0 [.ref (γ.1 + so k + 2), .int (g 228)] (rdw γ (wset w k g)) (Det none (rdw γ (wset w k (q_slidesN g 117)))) := by
  refine Cr_of [some (.ref (γ.1 + so k + 2)), some (.int (g 228)), none, none] (by decide +kernel) (Nat.le_of_ble_eq_true rfl) rfl ?_
  intro p e s m args below meth c X
  refine v_q0 (fun Q0 hQ0 => ?_)
  refine v_iconst' X kc_0 dX4_slide_0 ?_
  refine v_istore_n X (Nat.le_of_ble_eq_true rfl) rfl dX4_slide_1 ?_
  have lp2 : ∀ (n : Nat) (j : Nat), j ≤ 117 ∧ 118 ≤ j + n → V p l e { frames := 0, cells := 0, slots := 0, locals := 0 } s m args below meth c γ Q0 (rdw γ (wset w k (q_slidesN g j))) 0 0 2 [some (.ref (γ.1 + so k + 2)), some (.int (g 228)), some (.int (nI j)), none] [] := by
    intro n
    induction n with
    | zero =>
      intro j hbd
      exact absurd hbd (by omega)
    | succ n ih =>
      intro j hbd
      have hBj := HB_slidesN hB hB2 hz j (by omega)
      have e8 : q_slidesN g j 228 = g 228 := q_slidesN_off g (by omega) (by omega)
      refine v_iload_n X rfl dX4_slide_2 ?_
      refine v_iconst' X kc_3 dX4_slide_3 ?_
      refine v_iadd' X (nI_add _ _) dX4_slide_4 ?_
      refine v_aload_n X rfl dX4_slide_5 ?_
      refine v_getf X fd_X4_9 (rd_Track γ _ _ hk) rfl dX4_slide_6 ?_
      refine v_alen (t0 := 0) X (rd_Heights γ _ _ hk) rfl dX4_slide_9 ?_
      refine v_icmp_ge_n (tgt := 93) X dX4_slide_10 (by decide) (by omega) (by omega) (fun c_7 => ?_) (fun c_7 => ?_)
      · have hj : 117 = j := by omega
        subst hj
        subst hQ0
        exact v_vret X rfl (Nat.le_of_ble_eq_true rfl) (Nat.le_of_ble_eq_true rfl) dX4_slide_93 ⟨rfl, rfl⟩
      · refine v_aload_n X rfl dX4_slide_13 ?_
        refine v_getf X fd_X4_9 (rd_Track γ _ _ hk) rfl dX4_slide_14 ?_
        refine v_iload_n X rfl dX4_slide_17 ?_
        refine v_iald' X (v := ((q_slidesN g j) (j))) (rd_Heights γ _ _ hk) (j) rfl (by omega) (by decide) (vw_at (by omega)) dX4_slide_18 ?_
        refine v_aload_n X rfl dX4_slide_19 ?_
        refine v_getf X fd_X4_9 (rd_Track γ _ _ hk) rfl dX4_slide_20 ?_
        refine v_iload_n X rfl dX4_slide_23 ?_
        refine v_iconst' X kc_3 dX4_slide_24 ?_
        refine v_iadd' X (nI_add _ _) dX4_slide_25 ?_
        refine v_iald' X (v := ((q_slidesN g j) ((j + 3)))) (rd_Heights γ _ _ hk) ((j + 3)) rfl (by omega) (by decide) (vw_at (by omega)) dX4_slide_26 ?_
        refine v_isub X dX4_slide_27 ?_
        refine v_istore_n X (Nat.le_of_ble_eq_true rfl) rfl dX4_slide_28 ?_
        refine v_iload_n X rfl dX4_slide_29 ?_
        refine v_iload_n X rfl dX4_slide_30 ?_
        refine v_icmp_le (tgt := 59) X dX4_slide_31 (by decide) (fun q1 => ?_) (fun q1 => ?_)
        · refine v_iload_n X rfl dX4_slide_59 ?_
          refine v_iload_n X rfl dX4_slide_60 ?_
          refine v_ineg X dX4_slide_61 ?_
          refine v_icmp_ge (tgt := 87) X dX4_slide_62 (by decide) (fun q2 => ?_) (fun q2 => ?_)
          · have hE := q_sl_0 hBj hB2 (j := j) (by omega) (by rw [e8]; exact hz) (by rw [e8]; exact q1) (by rw [e8]; exact Int32.not_lt.mpr q2)
            refine v_iinc' X rfl rfl (nI_inc _) dX4_slide_87 ?_
            refine v_goto (tgt := 2) X dX4_slide_90 (by decide) ?_
            have hy := ih (j + 1) ⟨by omega, by omega⟩
            rw [show q_slidesN g (j + 1) = q_slides (q_slidesN g j) (j / 3) (j % 3) from rfl, ← hE] at hy
            exact v_Ln (hy) ⟨Or.inr rfl, Or.inr rfl, Or.inr rfl, Or.inl rfl, trivial⟩
          · have hE := q_sl_m hBj hB2 (j := j) (by omega) (by rw [e8]; exact hz) (by rw [e8]; exact q1) (by rw [e8]; exact Int32.not_le.mp q2)
            refine v_aload_n X rfl dX4_slide_65 ?_
            refine v_getf X fd_X4_9 (rd_Track γ _ _ hk) rfl dX4_slide_66 ?_
            refine v_iload_n X rfl dX4_slide_69 ?_
            refine v_dup2 X rfl rfl dX4_slide_70 ?_
            refine v_iald' X (v := ((q_slidesN g j) (j))) (rd_Heights γ _ _ hk) (j) rfl (by omega) (by decide) (vw_at (by omega)) dX4_slide_71 ?_
            refine v_iconst' X kc_1 dX4_slide_72 ?_
            refine v_iadd X dX4_slide_73 ?_
            refine v_iast X (rd_Heights γ _ _ hk) (j) rfl (by omega) (by decide) dX4_slide_74 ?_
            refine v_eqh (up_hts γ _ _ hk (by omega) _) ?_
            refine v_aload_n X rfl dX4_slide_75 ?_
            refine v_getf X fd_X4_9 (rd_Track γ _ _ hk) rfl dX4_slide_76 ?_
            refine v_iload_n X rfl dX4_slide_79 ?_
            refine v_iconst' X kc_3 dX4_slide_80 ?_
            refine v_iadd' X (nI_add _ _) dX4_slide_81 ?_
            refine v_dup2 X rfl rfl dX4_slide_82 ?_
            refine v_iald' X (v := ((upd (q_slidesN g j) (j) (((q_slidesN g j) (j)) + (nI 1))) ((j + 3)))) (rd_Heights γ _ _ hk) ((j + 3)) rfl (by omega) (by decide) (vw_at (by omega)) dX4_slide_83 ?_
            refine v_iconst' X kc_1 dX4_slide_84 ?_
            refine v_isub X dX4_slide_85 ?_
            refine v_iast X (rd_Heights γ _ _ hk) ((j + 3)) rfl (by omega) (by decide) dX4_slide_86 ?_
            refine v_eqh (up_hts γ _ _ hk (by omega) _) ?_
            refine v_iinc' X rfl rfl (nI_inc _) dX4_slide_87 ?_
            refine v_goto (tgt := 2) X dX4_slide_90 (by decide) ?_
            have hy := ih (j + 1) ⟨by omega, by omega⟩
            rw [show q_slidesN g (j + 1) = q_slides (q_slidesN g j) (j / 3) (j % 3) from rfl, ← hE] at hy
            exact v_Ln (hy) ⟨Or.inr rfl, Or.inr rfl, Or.inr rfl, Or.inl rfl, trivial⟩
        · have hE := q_sl_p (M := q_slidesN g j) (j := j) (by rw [e8]; exact q1)
          refine v_aload_n X rfl dX4_slide_34 ?_
          refine v_getf X fd_X4_9 (rd_Track γ _ _ hk) rfl dX4_slide_35 ?_
          refine v_iload_n X rfl dX4_slide_38 ?_
          refine v_dup2 X rfl rfl dX4_slide_39 ?_
          refine v_iald' X (v := ((q_slidesN g j) (j))) (rd_Heights γ _ _ hk) (j) rfl (by omega) (by decide) (vw_at (by omega)) dX4_slide_40 ?_
          refine v_iconst' X kc_1 dX4_slide_41 ?_
          refine v_isub X dX4_slide_42 ?_
          refine v_iast X (rd_Heights γ _ _ hk) (j) rfl (by omega) (by decide) dX4_slide_43 ?_
          refine v_eqh (up_hts γ _ _ hk (by omega) _) ?_
          refine v_aload_n X rfl dX4_slide_44 ?_
          refine v_getf X fd_X4_9 (rd_Track γ _ _ hk) rfl dX4_slide_45 ?_
          refine v_iload_n X rfl dX4_slide_48 ?_
          refine v_iconst' X kc_3 dX4_slide_49 ?_
          refine v_iadd' X (nI_add _ _) dX4_slide_50 ?_
          refine v_dup2 X rfl rfl dX4_slide_51 ?_
          refine v_iald' X (v := ((upd (q_slidesN g j) (j) (((q_slidesN g j) (j)) - (nI 1))) ((j + 3)))) (rd_Heights γ _ _ hk) ((j + 3)) rfl (by omega) (by decide) (vw_at (by omega)) dX4_slide_52 ?_
          refine v_iconst' X kc_1 dX4_slide_53 ?_
          refine v_iadd X dX4_slide_54 ?_
          refine v_iast X (rd_Heights γ _ _ hk) ((j + 3)) rfl (by omega) (by decide) dX4_slide_55 ?_
          refine v_eqh (up_hts γ _ _ hk (by omega) _) ?_
          refine v_goto (tgt := 87) X dX4_slide_56 (by decide) ?_
          refine v_iinc' X rfl rfl (nI_inc _) dX4_slide_87 ?_
          refine v_goto (tgt := 2) X dX4_slide_90 (by decide) ?_
          have hy := ih (j + 1) ⟨by omega, by omega⟩
          rw [show q_slidesN g (j + 1) = q_slides (q_slidesN g j) (j / 3) (j % 3) from rfl, ← hE] at hy
          exact v_Ln (hy) ⟨Or.inr rfl, Or.inr rfl, Or.inr rfl, Or.inl rfl, trivial⟩
  exact v_Ln (lp2 118 0 ⟨by omega, by omega⟩) ⟨Or.inr rfl, Or.inr rfl, Or.inr rfl, Or.inl rfl, trivial⟩
set_option maxHeartbeats 4000000 in
set_option maxRecDepth 100000 in
theorem c_X4_cutShoulders (l : Launch) (γ : Gm) (w : Wd) (g : Nat → Int32) (k : Nat) (hk : k < 8) : Cr l γ yX4_cutShoulders cX4_cutShoulders 5 (some .int) 0 0 0 0 [.ref (γ.1 + so k + 2), .int (g 229)] (rdw γ (wset w k g)) (Det (some (.int (q_spillsN g 40 226 - g 226))) (rdw γ (wset w k (upd (q_spillsN g 40) 226 (g 226))))) := by
  refine Cr_of [some (.ref (γ.1 + so k + 2)), some (.int (g 229)), none, none, none] (by decide +kernel) (Nat.le_of_ble_eq_true rfl) rfl ?_
  intro p e s m args below meth c X
  refine v_q0 (fun Q0 hQ0 => ?_)
  refine v_iconst' X kc_0 dX4_cutShoulders_0 ?_
  refine v_istore_n X (Nat.le_of_ble_eq_true rfl) rfl dX4_cutShoulders_1 ?_
  refine v_iconst' X kc_0 dX4_cutShoulders_2 ?_
  refine v_istore_n X (Nat.le_of_ble_eq_true rfl) rfl dX4_cutShoulders_3 ?_
  have lp4 : ∀ (n : Nat) (j : Nat), j ≤ 120 ∧ 121 ≤ j + n → V p l e { frames := 0, cells := 0, slots := 0, locals := 0 } s m args below meth c γ Q0 (rdw γ (wset w k (c_A g j))) 0 0 4 [some (.ref (γ.1 + so k + 2)), some (.int (g 229)), some (.int (c_U g j)), some (.int (nI j)), none] [] := by
    intro n
    induction n with
    | zero =>
      intro j hbd
      exact absurd hbd (by omega)
    | succ n ih =>
      intro j hbd
      have e9 : g 229 = c_cutN g j 229 := by first | exact (c_cutN_off g (by omega) (by omega) j (by omega)).symm
      refine v_iload_n X rfl dX4_cutShoulders_4 ?_
      refine v_aload_n X rfl dX4_cutShoulders_5 ?_
      refine v_getf X fd_X4_9 (rd_Track γ _ _ hk) rfl dX4_cutShoulders_6 ?_
      refine v_alen (t0 := 0) X (rd_Heights γ _ _ hk) rfl dX4_cutShoulders_9 ?_
      refine v_icmp_ge_n (tgt := 57) X dX4_cutShoulders_10 (by decide) (by omega) (by omega) (fun c_7 => ?_) (fun c_7 => ?_)
      · have hj : 120 = j := by omega
        subst hj
        refine v_iload_n X rfl dX4_cutShoulders_57 ?_
        subst hQ0
        exact v_iret X rfl (Nat.le_of_ble_eq_true rfl) (Nat.le_of_ble_eq_true rfl) dX4_cutShoulders_58 ⟨so_some (by rw [← c_cut_eq]; rfl), by rw [← c_cut_eq]; rfl⟩
      · refine v_aload_n X rfl dX4_cutShoulders_13 ?_
        refine v_getf X fd_X4_9 (rd_Track γ _ _ hk) rfl dX4_cutShoulders_14 ?_
        refine v_iload_n X rfl dX4_cutShoulders_17 ?_
        refine v_iald' X (v := ((c_A g j) (j))) (rd_Heights γ _ _ hk) (j) rfl (by omega) (by decide) (vw_at (by omega)) dX4_cutShoulders_18 ?_
        refine v_iload_n X rfl dX4_cutShoulders_19 ?_
        refine v_isub X dX4_cutShoulders_20 ?_
        refine v_istore X (Nat.le_of_ble_eq_true rfl) rfl dX4_cutShoulders_21 ?_
        refine v_iload_n X rfl dX4_cutShoulders_23 ?_
        refine v_iconst' X kc_3 dX4_cutShoulders_24 ?_
        refine v_irem' X (by omega) (by decide) (by decide) dX4_cutShoulders_25 ?_
        refine v_iconst' X kc_1 dX4_cutShoulders_26 ?_
        refine v_icmp_eq_n (tgt := 51) X dX4_cutShoulders_27 (by decide) (by omega) (by omega) (fun q1 => ?_) (fun q1 => ?_)
        · have hE1 : c_A g (j + 1) = c_A g j := by unfold c_A; rw [c_cut_a g q1]
          have hE2 : c_U g (j + 1) = c_U g j := by unfold c_U; rw [c_cut_a g q1]
          refine v_iinc' X rfl rfl (nI_inc _) dX4_cutShoulders_51 ?_
          refine v_goto (tgt := 4) X dX4_cutShoulders_54 (by decide) ?_
          have hy := ih (j + 1) ⟨by omega, by omega⟩
          rw [hE1, hE2] at hy
          exact v_Ln (hy) ⟨Or.inr rfl, Or.inr rfl, Or.inr rfl, Or.inr rfl, Or.inl rfl, trivial⟩
        · refine v_iload X rfl dX4_cutShoulders_30 ?_
          refine v_if_le (tgt := 51) X dX4_cutShoulders_32 (by decide) (fun q2 => ?_) (fun q2 => ?_)
          · rw [e9] at q2
            have hE1 : c_A g (j + 1) = c_A g j := by unfold c_A; rw [c_cut_b g (by omega) q1 q2]
            have hE2 : c_U g (j + 1) = c_U g j := by unfold c_U; rw [c_cut_b g (by omega) q1 q2]
            refine v_iinc' X rfl rfl (nI_inc _) dX4_cutShoulders_51 ?_
            refine v_goto (tgt := 4) X dX4_cutShoulders_54 (by decide) ?_
            have hy := ih (j + 1) ⟨by omega, by omega⟩
            rw [hE1, hE2] at hy
            exact v_Ln (hy) ⟨Or.inr rfl, Or.inr rfl, Or.inr rfl, Or.inr rfl, Or.inl rfl, trivial⟩
          · have q3 := q2
            rw [e9] at q3
            obtain ⟨hE1, hE2⟩ := c_cut_c g (by omega) q1 q3
            rw [← e9] at hE1 hE2
            refine v_aload_n X rfl dX4_cutShoulders_35 ?_
            refine v_getf X fd_X4_9 (rd_Track γ _ _ hk) rfl dX4_cutShoulders_36 ?_
            refine v_iload_n X rfl dX4_cutShoulders_39 ?_
            refine v_dup2 X rfl rfl dX4_cutShoulders_40 ?_
            refine v_iald' X (v := ((c_A g j) (j))) (rd_Heights γ _ _ hk) (j) rfl (by omega) (by decide) (vw_at (by omega)) dX4_cutShoulders_41 ?_
            refine v_iload X rfl dX4_cutShoulders_42 ?_
            refine v_isub X dX4_cutShoulders_44 ?_
            refine v_iast X (rd_Heights γ _ _ hk) (j) rfl (by omega) (by decide) dX4_cutShoulders_45 ?_
            refine v_eqh (up_hts γ _ _ hk (by omega) _) ?_
            refine v_iload_n X rfl dX4_cutShoulders_46 ?_
            refine v_iload X rfl dX4_cutShoulders_47 ?_
            refine v_iadd X dX4_cutShoulders_49 ?_
            refine v_istore_n X (Nat.le_of_ble_eq_true rfl) rfl dX4_cutShoulders_50 ?_
            refine v_iinc' X rfl rfl (nI_inc _) dX4_cutShoulders_51 ?_
            refine v_goto (tgt := 4) X dX4_cutShoulders_54 (by decide) ?_
            have hy := ih (j + 1) ⟨by omega, by omega⟩
            rw [hE1, hE2] at hy
            exact v_Ln (hy) ⟨Or.inr rfl, Or.inr rfl, Or.inr rfl, Or.inr rfl, Or.inl rfl, trivial⟩
  have hy := lp4 121 0 ⟨by omega, by omega⟩
  rw [c_A0, c_U0] at hy
  exact v_Ln (hy) ⟨Or.inr rfl, Or.inr rfl, Or.inr rfl, Or.inr rfl, Or.inl rfl, trivial⟩
