set_option maxHeartbeats 4000000 in
set_option maxRecDepth 100000 in
theorem c_X7_moves (l : Launch) (γ : Gm) (w : Wd) (M : Nat → Int32) (a b : Nat) (ha : a < 6) (hb : b < 3) (x : Int32) : Cr l γ yX7_moves cX7_moves 4 none 1 23 0 0 [.ref (γ.1 + 86), .int (nI a), .int (nI b), .int x] (rdw γ (wset w 10 M)) (Det none (rdw γ (wset w 10 (q_moves M a b x)))) := by
  refine Cr_of [some (.ref (γ.1 + 86)), some (.int (nI a)), some (.int (nI b)), some (.int x)] (by decide +kernel) (Nat.le_of_ble_eq_true rfl) rfl ?_
  intro p e s m args below meth c X
  refine v_iload_n X rfl dX7_moves_0 ?_
  refine v_if_le (tgt := 27) X dX7_moves_1 (by decide) (fun c_1 => ?_) (fun c_1 => ?_)
  · refine v_aload_n X rfl dX7_moves_27 ?_
    refine v_iload_n X rfl dX7_moves_28 ?_
    refine v_iconst' X kc_2 dX7_moves_29 ?_
    refine v_iload_n X rfl dX7_moves_30 ?_
    refine v_iadd' X (nI_add _ _) dX7_moves_31 ?_
    refine v_callV (ci := 8) X mv_X7_90 (c_X7_of l γ _ _ a ((2 + b)) (by omega)) rfl rfl (rd_Model γ _) rfl ⟨Nat.le_of_ble_eq_true rfl, Nat.le_of_ble_eq_true rfl, Nat.le_of_ble_eq_true rfl, Nat.le_of_ble_eq_true rfl⟩ (Nat.le_of_ble_eq_true rfl) rfl dX7_moves_32 rfl (det_i ?_)
    refine v_if_le (tgt := 54) X dX7_moves_35 (by decide) (fun c_2 => ?_) (fun c_2 => ?_)
    · exact v_vret X rfl (Nat.le_of_ble_eq_true rfl) (Nat.le_of_ble_eq_true rfl) dX7_moves_54 ⟨rfl, congrArg (fun z => rdw γ (wset w 10 z)) (by unfold q_moves; first | rw [if_neg c_1] | rw [if_pos c_1, if_pos c_2] | rw [if_pos c_1, if_neg c_2])⟩
    · refine v_aload_n X rfl dX7_moves_38 ?_
      refine v_iload_n X rfl dX7_moves_39 ?_
      refine v_iconst' X kc_5 dX7_moves_40 ?_
      refine v_iload_n X rfl dX7_moves_41 ?_
      refine v_iadd' X (nI_add _ _) dX7_moves_42 ?_
      refine v_aload_n X rfl dX7_moves_43 ?_
      refine v_getf X fd_X7_7 (rd_Model γ _) rfl dX7_moves_44 ?_
      refine v_sipush' X ks_230 dX7_moves_47 ?_
      refine v_iald' X (v := (M (230))) (rd_M γ _) (230) rfl (by omega) (by decide) (vw_at (by omega)) dX7_moves_50 ?_
      refine v_callV (ci := 8) X mv_X7_33 (c_X7_put l γ _ _ a ((5 + b)) (by omega) _) rfl rfl (rd_Model γ _) rfl ⟨Nat.le_of_ble_eq_true rfl, Nat.le_of_ble_eq_true rfl, Nat.le_of_ble_eq_true rfl, Nat.le_of_ble_eq_true rfl⟩ (Nat.le_of_ble_eq_true rfl) rfl dX7_moves_51 rfl (det_v ?_)
      exact v_vret X rfl (Nat.le_of_ble_eq_true rfl) (Nat.le_of_ble_eq_true rfl) dX7_moves_54 ⟨rfl, congrArg (fun z => rdw γ (wset w 10 z)) (by unfold q_moves; first | rw [if_neg c_1] | rw [if_pos c_1, if_pos c_2] | rw [if_pos c_1, if_neg c_2])⟩
  · refine v_aload_n X rfl dX7_moves_4 ?_
    refine v_iload_n X rfl dX7_moves_5 ?_
    refine v_iconst' X kc_2 dX7_moves_6 ?_
    refine v_iload_n X rfl dX7_moves_7 ?_
    refine v_iadd' X (nI_add _ _) dX7_moves_8 ?_
    refine v_iload_n X rfl dX7_moves_9 ?_
    refine v_callV (ci := 8) X mv_X7_33 (c_X7_put l γ _ _ a ((2 + b)) (by omega) _) rfl rfl (rd_Model γ _) rfl ⟨Nat.le_of_ble_eq_true rfl, Nat.le_of_ble_eq_true rfl, Nat.le_of_ble_eq_true rfl, Nat.le_of_ble_eq_true rfl⟩ (Nat.le_of_ble_eq_true rfl) rfl dX7_moves_10 rfl (det_v ?_)
    refine v_aload_n X rfl dX7_moves_13 ?_
    refine v_iload_n X rfl dX7_moves_14 ?_
    refine v_iconst' X kc_5 dX7_moves_15 ?_
    refine v_iload_n X rfl dX7_moves_16 ?_
    refine v_iadd' X (nI_add _ _) dX7_moves_17 ?_
    refine v_sipush' X ks_m1001 dX7_moves_18 ?_
    refine v_callV (ci := 8) X mv_X7_33 (c_X7_put l γ _ _ a ((5 + b)) (by omega) _) rfl rfl (rd_Model γ _) rfl ⟨Nat.le_of_ble_eq_true rfl, Nat.le_of_ble_eq_true rfl, Nat.le_of_ble_eq_true rfl, Nat.le_of_ble_eq_true rfl⟩ (Nat.le_of_ble_eq_true rfl) rfl dX7_moves_21 rfl (det_v ?_)
    refine v_goto (tgt := 54) X dX7_moves_24 (by decide) ?_
    exact v_vret X rfl (Nat.le_of_ble_eq_true rfl) (Nat.le_of_ble_eq_true rfl) dX7_moves_54 ⟨rfl, congrArg (fun z => rdw γ (wset w 10 z)) (by unfold q_moves; first | rw [if_neg c_1] | rw [if_pos c_1, if_pos c_2] | rw [if_pos c_1, if_neg c_2])⟩
set_option maxHeartbeats 4000000 in
set_option maxRecDepth 100000 in
theorem c_X7_dropsOrder (l : Launch) (γ : Gm) (w : Wd) (M : Nat → Int32) (q i : Nat) (hq : M 223 = nI (q + 1)) (h9 : q ≤ 9) (hi : i ≤ q) : Cr l γ yX7_dropsOrder cX7_dropsOrder 3 none 0 0 0 0 [.ref (γ.1 + 86), .int (nI i)] (rdw γ (wset w 10 M)) (Det none (rdw γ (wset w 10 (q_drop M q i)))) := by
  refine Cr_of [some (.ref (γ.1 + 86)), some (.int (nI i)), none] (by decide +kernel) (Nat.le_of_ble_eq_true rfl) rfl ?_
  intro p e s m args below meth c X
  refine v_aload_n X rfl dX7_dropsOrder_0 ?_
  refine v_getf X fd_X7_7 (rd_Model γ _) rfl dX7_dropsOrder_1 ?_
  refine v_sipush' X ks_223 dX7_dropsOrder_4 ?_
  refine v_dup2 X rfl rfl dX7_dropsOrder_7 ?_
  refine v_iald' X (v := nI (q + 1)) (rd_M γ _) (223) rfl (by omega) (by decide) ((vw_at (by omega)).trans hq) dX7_dropsOrder_8 ?_
  refine v_iconst' X kc_1 dX7_dropsOrder_9 ?_
  refine v_isub' X (v := nI q) (pk_sub (by omega)) dX7_dropsOrder_10 ?_
  refine v_iast X (rd_M γ _) (223) rfl (by omega) (by decide) dX7_dropsOrder_11 ?_
  refine v_eqh (uq_M γ _ (by omega) _) ?_
  simp (disch := decide) only [wset_swap, wset_wset, ws_same, ws_ne, wh_ws]
  refine v_sipush' X ks_168 dX7_dropsOrder_12 ?_
  refine v_iconst' X kc_5 dX7_dropsOrder_15 ?_
  refine v_iload_n X rfl dX7_dropsOrder_16 ?_
  refine v_imul' X (pk_mul _ _) dX7_dropsOrder_17 ?_
  refine v_iadd' X (nI_add _ _) dX7_dropsOrder_18 ?_
  refine v_istore_n X (Nat.le_of_ble_eq_true rfl) rfl dX7_dropsOrder_19 ?_
  have lp20 : ∀ (n : Nat) (k : Nat), 168 + 5 * i ≤ k ∧ k ≤ 168 + 5 * q ∧ 168 + 5 * q + 1 ≤ k + n → V p l e { frames := 0, cells := 0, slots := 0, locals := 0 } s m args below meth c γ (MQ below (Qof γ (Det none (rdw γ (wset w 10 (q_drop M q i))))) args s 0 0 (Ag γ)) (rdw γ (wset w 10 (q_dropN M q i k))) 0 0 20 [some (.ref (γ.1 + 86)), some (.int (nI i)), some (.int (nI k))] [] := by
    intro n
    induction n with
    | zero =>
      intro k hbd
      exact absurd hbd (by omega)
    | succ n ih =>
      intro k hbd
      refine v_iload_n X rfl dX7_dropsOrder_20 ?_
      refine v_sipush' X ks_168 dX7_dropsOrder_21 ?_
      refine v_iconst' X kc_5 dX7_dropsOrder_24 ?_
      refine v_aload_n X rfl dX7_dropsOrder_25 ?_
      refine v_getf X fd_X7_7 (rd_Model γ _) rfl dX7_dropsOrder_26 ?_
      refine v_sipush' X ks_223 dX7_dropsOrder_29 ?_
      refine v_iald' X (v := nI q) (rd_M γ _) (223) rfl (by omega) (by decide) ((vw_at (by omega)).trans (q_drop223 M q i k (by omega))) dX7_dropsOrder_32 ?_
      refine v_imul' X (pk_mul _ _) dX7_dropsOrder_33 ?_
      refine v_iadd' X (nI_add _ _) dX7_dropsOrder_34 ?_
      refine v_icmp_ge_n (tgt := 58) X dX7_dropsOrder_35 (by decide) (by omega) (by omega) (fun c_1 => ?_) (fun c_1 => ?_)
      · have hk : k = 168 + 5 * q := by omega
        subst hk
        exact v_vret X rfl (Nat.le_of_ble_eq_true rfl) (Nat.le_of_ble_eq_true rfl) dX7_dropsOrder_58 ⟨rfl, rfl⟩
      · refine v_aload_n X rfl dX7_dropsOrder_38 ?_
        refine v_getf X fd_X7_7 (rd_Model γ _) rfl dX7_dropsOrder_39 ?_
        refine v_iload_n X rfl dX7_dropsOrder_42 ?_
        refine v_aload_n X rfl dX7_dropsOrder_43 ?_
        refine v_getf X fd_X7_7 (rd_Model γ _) rfl dX7_dropsOrder_44 ?_
        refine v_iload_n X rfl dX7_dropsOrder_47 ?_
        refine v_iconst' X kc_5 dX7_dropsOrder_48 ?_
        refine v_iadd' X (nI_add _ _) dX7_dropsOrder_49 ?_
        refine v_iald' X (v := ((q_dropN M q i k) ((k + 5)))) (rd_M γ _) ((k + 5)) rfl (by omega) (by decide) (vw_at (by omega)) dX7_dropsOrder_50 ?_
        refine v_iast X (rd_M γ _) (k) rfl (by omega) (by decide) dX7_dropsOrder_51 ?_
        refine v_eqh (uq_M γ _ (by omega) _) ?_
        simp (disch := decide) only [wset_swap, wset_wset, ws_same, ws_ne, wh_ws]
        rw [q_dropS M q i k (by omega)]
        refine v_iinc' X rfl rfl (nI_inc _) dX7_dropsOrder_52 ?_
        refine v_goto (tgt := 20) X dX7_dropsOrder_55 (by decide) ?_
        exact (ih (k + 1) ⟨by omega, by omega, by omega⟩)
  have hz := lp20 (5 * (q - i) + 1) (168 + 5 * i) ⟨by omega, by omega, by omega⟩
  rw [q_drop0] at hz
  exact (hz)
set_option maxHeartbeats 4000000 in
set_option maxRecDepth 100000 in
theorem c_X7_isDue (l : Launch) (γ : Gm) (w : Wd) (M : Nat → Int32) (cn : Nat) (hcn : M 218 = nI cn) (h1 : 1 ≤ cn) (h6 : cn ≤ 6) (i : Nat) (hi : i < 10) : Cr l γ yX7_isDue cX7_isDue 3 (some .boolean) 2 43 0 0 [.ref (γ.1 + 86), .int (nI i)] (rdw γ (wset w 10 M)) (Det (some (.int (q_due M cn i))) (rdw γ (wset w 10 (M)))) := by
  refine Cr_of [some (.ref (γ.1 + 86)), some (.int (nI i)), none] (by decide +kernel) (Nat.le_of_ble_eq_true rfl) rfl ?_
  intro p e s m args below meth c X
  refine v_sipush' X ks_168 dX7_isDue_0 ?_
  refine v_iconst' X kc_5 dX7_isDue_3 ?_
  refine v_iload_n X rfl dX7_isDue_4 ?_
  refine v_imul' X (pk_mul _ _) dX7_isDue_5 ?_
  refine v_iadd' X (nI_add _ _) dX7_isDue_6 ?_
  refine v_istore_n X (Nat.le_of_ble_eq_true rfl) rfl dX7_isDue_7 ?_
  refine v_aload_n X rfl dX7_isDue_8 ?_
  refine v_getf X fd_X7_7 (rd_Model γ _) rfl dX7_isDue_9 ?_
  refine v_iload_n X rfl dX7_isDue_12 ?_
  refine v_iconst' X kc_1 dX7_isDue_13 ?_
  refine v_iadd' X (nI_add _ _) dX7_isDue_14 ?_
  refine v_iald' X (v := (M (((168 + (5 * i)) + 1)))) (rd_M γ _) (((168 + (5 * i)) + 1)) rfl (by omega) (by decide) (vw_at (by omega)) dX7_isDue_15 ?_
  refine v_iconst' X kc_2 dX7_isDue_16 ?_
  refine v_icmp_ne (tgt := 43) X dX7_isDue_17 (by decide) (fun c_1 => ?_) (fun c_1 => ?_)
  · refine v_aload_n X rfl dX7_isDue_43 ?_
    refine v_aload_n X rfl dX7_isDue_44 ?_
    refine v_getf X fd_X7_7 (rd_Model γ _) rfl dX7_isDue_45 ?_
    refine v_iload_n X rfl dX7_isDue_48 ?_
    refine v_iconst' X kc_2 dX7_isDue_49 ?_
    refine v_iadd' X (nI_add _ _) dX7_isDue_50 ?_
    refine v_iald' X (v := (M (((168 + (5 * i)) + 2)))) (rd_M γ _) (((168 + (5 * i)) + 2)) rfl (by omega) (by decide) (vw_at (by omega)) dX7_isDue_51 ?_
    refine v_callV (ci := 8) X mv_X7_86 (c_X7_isWagon l γ _ _ cn hcn h1 h6 _) rfl rfl (rd_Model γ _) rfl ⟨Nat.le_of_ble_eq_true rfl, Nat.le_of_ble_eq_true rfl, Nat.le_of_ble_eq_true rfl, Nat.le_of_ble_eq_true rfl⟩ (Nat.le_of_ble_eq_true rfl) rfl dX7_isDue_52 rfl (det_i ?_)
    refine v_if_eq_b (tgt := 90) X dX7_isDue_55 (by decide) (fun c_2 => ?_) (fun c_2 => ?_)
    · refine v_iconst' X kc_0 dX7_isDue_90 ?_
      exact v_zret X rfl rfl (Nat.le_of_ble_eq_true rfl) (Nat.le_of_ble_eq_true rfl) dX7_isDue_91 ⟨so_some (by unfold q_due; first | (rw [if_pos c_1]; first | exact bi_t c_2 | exact bi_f (fun z => z c_2)) | (rw [if_neg c_1]; first | exact bi_t ⟨c_2, c_3⟩ | exact bi_f (fun z => z.2 c_3) | exact bi_f (fun z => c_2 z.1))), rfl⟩
    · refine v_aload_n X rfl dX7_isDue_58 ?_
      refine v_getf X fd_X7_7 (rd_Model γ _) rfl dX7_isDue_59 ?_
      refine v_sipush' X ks_219 dX7_isDue_62 ?_
      refine v_iald' X (v := (M (219))) (rd_M γ _) (219) rfl (by omega) (by decide) (vw_at (by omega)) dX7_isDue_65 ?_
      refine v_iconst' X kc_4 dX7_isDue_66 ?_
      refine v_aload_n X rfl dX7_isDue_67 ?_
      refine v_getf X fd_X7_7 (rd_Model γ _) rfl dX7_isDue_68 ?_
      refine v_iload_n X rfl dX7_isDue_71 ?_
      refine v_iconst' X kc_2 dX7_isDue_72 ?_
      refine v_iadd' X (nI_add _ _) dX7_isDue_73 ?_
      refine v_iald' X (v := (M (((168 + (5 * i)) + 2)))) (rd_M γ _) (((168 + (5 * i)) + 2)) rfl (by omega) (by decide) (vw_at (by omega)) dX7_isDue_74 ?_
      refine v_imul X dX7_isDue_75 ?_
      refine v_isub X dX7_isDue_76 ?_
      refine v_aload_n X rfl dX7_isDue_77 ?_
      refine v_getf X fd_X7_7 (rd_Model γ _) rfl dX7_isDue_78 ?_
      refine v_iload_n X rfl dX7_isDue_81 ?_
      refine v_iald' X (v := (M ((168 + (5 * i))))) (rd_M γ _) ((168 + (5 * i))) rfl (by omega) (by decide) (vw_at (by omega)) dX7_isDue_82 ?_
      refine v_icmp_lt (tgt := 90) X dX7_isDue_83 (by decide) (fun c_3 => ?_) (fun c_3 => ?_)
      · refine v_iconst' X kc_0 dX7_isDue_90 ?_
        exact v_zret X rfl rfl (Nat.le_of_ble_eq_true rfl) (Nat.le_of_ble_eq_true rfl) dX7_isDue_91 ⟨so_some (by unfold q_due; first | (rw [if_pos c_1]; first | exact bi_t c_2 | exact bi_f (fun z => z c_2)) | (rw [if_neg c_1]; first | exact bi_t ⟨c_2, c_3⟩ | exact bi_f (fun z => z.2 c_3) | exact bi_f (fun z => c_2 z.1))), rfl⟩
      · refine v_iconst' X kc_1 dX7_isDue_86 ?_
        refine v_goto (tgt := 91) X dX7_isDue_87 (by decide) ?_
        exact v_zret X rfl rfl (Nat.le_of_ble_eq_true rfl) (Nat.le_of_ble_eq_true rfl) dX7_isDue_91 ⟨so_some (by unfold q_due; first | (rw [if_pos c_1]; first | exact bi_t c_2 | exact bi_f (fun z => z c_2)) | (rw [if_neg c_1]; first | exact bi_t ⟨c_2, c_3⟩ | exact bi_f (fun z => z.2 c_3) | exact bi_f (fun z => c_2 z.1))), rfl⟩
  · refine v_aload_n X rfl dX7_isDue_20 ?_
    refine v_getf X fd_X7_7 (rd_Model γ _) rfl dX7_isDue_21 ?_
    refine v_sipush' X ks_219 dX7_isDue_24 ?_
    refine v_iald' X (v := (M (219))) (rd_M γ _) (219) rfl (by omega) (by decide) (vw_at (by omega)) dX7_isDue_27 ?_
    refine v_aload_n X rfl dX7_isDue_28 ?_
    refine v_getf X fd_X7_7 (rd_Model γ _) rfl dX7_isDue_29 ?_
    refine v_iload_n X rfl dX7_isDue_32 ?_
    refine v_iald' X (v := (M ((168 + (5 * i))))) (rd_M γ _) ((168 + (5 * i))) rfl (by omega) (by decide) (vw_at (by omega)) dX7_isDue_33 ?_
    refine v_icmp_lt (tgt := 41) X dX7_isDue_34 (by decide) (fun c_2 => ?_) (fun c_2 => ?_)
    · refine v_iconst' X kc_0 dX7_isDue_41 ?_
      exact v_zret X rfl rfl (Nat.le_of_ble_eq_true rfl) (Nat.le_of_ble_eq_true rfl) dX7_isDue_42 ⟨so_some (by unfold q_due; first | (rw [if_pos c_1]; first | exact bi_t c_2 | exact bi_f (fun z => z c_2)) | (rw [if_neg c_1]; first | exact bi_t ⟨c_2, c_3⟩ | exact bi_f (fun z => z.2 c_3) | exact bi_f (fun z => c_2 z.1))), rfl⟩
    · refine v_iconst' X kc_1 dX7_isDue_37 ?_
      refine v_goto (tgt := 42) X dX7_isDue_38 (by decide) ?_
      exact v_zret X rfl rfl (Nat.le_of_ble_eq_true rfl) (Nat.le_of_ble_eq_true rfl) dX7_isDue_42 ⟨so_some (by unfold q_due; first | (rw [if_pos c_1]; first | exact bi_t c_2 | exact bi_f (fun z => z c_2)) | (rw [if_neg c_1]; first | exact bi_t ⟨c_2, c_3⟩ | exact bi_f (fun z => z.2 c_3) | exact bi_f (fun z => c_2 z.1))), rfl⟩
set_option maxHeartbeats 4000000 in
set_option maxRecDepth 100000 in
theorem c_X7_falls (l : Launch) (γ : Gm) (w : Wd) (M : Nat → Int32) (a b : Nat) (ha : a < 6) (hb : b < 3) : Cr l γ yX7_falls cX7_falls 5 none 2 42 0 0 [.ref (γ.1 + 86), .int (nI a), .int (nI b)] (rdw γ (wset w 10 M)) (Det none (rdw γ (wset w 10 (q_falls M a b)))) := by
  refine Cr_of [some (.ref (γ.1 + 86)), some (.int (nI a)), some (.int (nI b)), none, none] (by decide +kernel) (Nat.le_of_ble_eq_true rfl) rfl ?_
  intro p e s m args below meth c X
  refine v_aload_n X rfl dX7_falls_0 ?_
  refine v_iload_n X rfl dX7_falls_1 ?_
  refine v_iconst' X kc_2 dX7_falls_2 ?_
  refine v_iload_n X rfl dX7_falls_3 ?_
  refine v_iadd' X (nI_add _ _) dX7_falls_4 ?_
  refine v_callV (ci := 8) X mv_X7_90 (c_X7_of l γ _ _ a ((2 + b)) (by omega)) rfl rfl (rd_Model γ _) rfl ⟨Nat.le_of_ble_eq_true rfl, Nat.le_of_ble_eq_true rfl, Nat.le_of_ble_eq_true rfl, Nat.le_of_ble_eq_true rfl⟩ (Nat.le_of_ble_eq_true rfl) rfl dX7_falls_5 rfl (det_i ?_)
  refine v_aload_n X rfl dX7_falls_8 ?_
  refine v_iload_n X rfl dX7_falls_9 ?_
  refine v_iconst' X kc_0 dX7_falls_10 ?_
  refine v_callV (ci := 8) X mv_X7_90 (c_X7_of l γ _ _ a 0 (by omega)) rfl rfl (rd_Model γ _) rfl ⟨Nat.le_of_ble_eq_true rfl, Nat.le_of_ble_eq_true rfl, Nat.le_of_ble_eq_true rfl, Nat.le_of_ble_eq_true rfl⟩ (Nat.le_of_ble_eq_true rfl) rfl dX7_falls_11 rfl (det_i ?_)
  refine v_callS X ms_X7_102 (c_X7_least l γ _ _ _) rfl ⟨Nat.le_of_ble_eq_true rfl, Nat.le_of_ble_eq_true rfl, Nat.le_of_ble_eq_true rfl, Nat.le_of_ble_eq_true rfl⟩ (Nat.le_of_ble_eq_true rfl) rfl dX7_falls_14 rfl (det_i ?_)
  show V p l e _ s m args below meth c γ _ _ _ _ _ _ (.int (q_u M a b) :: _)
  refine v_istore_n X (Nat.le_of_ble_eq_true rfl) rfl dX7_falls_17 ?_
  refine v_aload_n X rfl dX7_falls_18 ?_
  refine v_iload_n X rfl dX7_falls_19 ?_
  refine v_iconst' X kc_0 dX7_falls_20 ?_
  refine v_aload_n X rfl dX7_falls_21 ?_
  refine v_iload_n X rfl dX7_falls_22 ?_
  refine v_iconst' X kc_0 dX7_falls_23 ?_
  refine v_callV (ci := 8) X mv_X7_90 (c_X7_of l γ _ _ a 0 (by omega)) rfl rfl (rd_Model γ _) rfl ⟨Nat.le_of_ble_eq_true rfl, Nat.le_of_ble_eq_true rfl, Nat.le_of_ble_eq_true rfl, Nat.le_of_ble_eq_true rfl⟩ (Nat.le_of_ble_eq_true rfl) rfl dX7_falls_24 rfl (det_i ?_)
  refine v_iload_n X rfl dX7_falls_27 ?_
  refine v_isub X dX7_falls_28 ?_
  refine v_callV (ci := 8) X mv_X7_33 (c_X7_put l γ _ _ a 0 (by omega) _) rfl rfl (rd_Model γ _) rfl ⟨Nat.le_of_ble_eq_true rfl, Nat.le_of_ble_eq_true rfl, Nat.le_of_ble_eq_true rfl, Nat.le_of_ble_eq_true rfl⟩ (Nat.le_of_ble_eq_true rfl) rfl dX7_falls_29 rfl (det_v ?_)
  show V p l e _ s m args below meth c γ _ (rdw γ (wset w 10 (q_f1 M a b))) _ _ _ _ _
  refine v_aload_n X rfl dX7_falls_32 ?_
  refine v_iload_n X rfl dX7_falls_33 ?_
  refine v_iconst' X kc_1 dX7_falls_34 ?_
  refine v_aload_n X rfl dX7_falls_35 ?_
  refine v_iload_n X rfl dX7_falls_36 ?_
  refine v_iconst' X kc_1 dX7_falls_37 ?_
  refine v_callV (ci := 8) X mv_X7_90 (c_X7_of l γ _ _ a 1 (by omega)) rfl rfl (rd_Model γ _) rfl ⟨Nat.le_of_ble_eq_true rfl, Nat.le_of_ble_eq_true rfl, Nat.le_of_ble_eq_true rfl, Nat.le_of_ble_eq_true rfl⟩ (Nat.le_of_ble_eq_true rfl) rfl dX7_falls_38 rfl (det_i ?_)
  refine v_iload_n X rfl dX7_falls_41 ?_
  refine v_iadd X dX7_falls_42 ?_
  refine v_callV (ci := 8) X mv_X7_33 (c_X7_put l γ _ _ a 1 (by omega) _) rfl rfl (rd_Model γ _) rfl ⟨Nat.le_of_ble_eq_true rfl, Nat.le_of_ble_eq_true rfl, Nat.le_of_ble_eq_true rfl, Nat.le_of_ble_eq_true rfl⟩ (Nat.le_of_ble_eq_true rfl) rfl dX7_falls_43 rfl (det_v ?_)
  show V p l e _ s m args below meth c γ _ (rdw γ (wset w 10 (q_f2 M a b))) _ _ _ _ _
  refine v_aload_n X rfl dX7_falls_46 ?_
  refine v_getf X fd_X7_7 (rd_Model γ _) rfl dX7_falls_47 ?_
  refine v_sipush' X ks_219 dX7_falls_50 ?_
  refine v_iald' X (v := ((q_f2 M a b) (219))) (rd_M γ _) (219) rfl (by omega) (by decide) (vw_at (by omega)) dX7_falls_53 ?_
  refine v_iconst' X kc_4 dX7_falls_54 ?_
  refine v_iload_n X rfl dX7_falls_55 ?_
  refine v_imul' X (pk_mul _ _) dX7_falls_56 ?_
  refine v_isub X dX7_falls_57 ?_
  show V p l e _ s m args below meth c γ _ _ _ _ _ _ (.int (q_fc M a b) :: _)
  refine v_istore X (Nat.le_of_ble_eq_true rfl) rfl dX7_falls_58 ?_
  refine v_iload X rfl dX7_falls_60 ?_
  refine v_callS X ms_X7_105 (c_X7_isCell l γ _ _) rfl ⟨Nat.le_of_ble_eq_true rfl, Nat.le_of_ble_eq_true rfl, Nat.le_of_ble_eq_true rfl, Nat.le_of_ble_eq_true rfl⟩ (Nat.le_of_ble_eq_true rfl) rfl dX7_falls_62 rfl (det_i ?_)
  refine v_if_eq_b (tgt := 86) X dX7_falls_65 (by decide) (fun c_1 => ?_) (fun c_1 => ?_)
  · refine v_aload_n X rfl dX7_falls_86 ?_
    refine v_getf X fd_X7_7 (rd_Model γ _) rfl dX7_falls_87 ?_
    refine v_sipush' X ks_226 dX7_falls_90 ?_
    refine v_dup2 X rfl rfl dX7_falls_93 ?_
    refine v_iald' X (v := ((q_f2 M a b) (226))) (rd_M γ _) (226) rfl (by omega) (by decide) (vw_at (by omega)) dX7_falls_94 ?_
    refine v_iload_n X rfl dX7_falls_95 ?_
    refine v_iadd X dX7_falls_96 ?_
    refine v_iast X (rd_M γ _) (226) rfl (by omega) (by decide) dX7_falls_97 ?_
    refine v_eqh (uq_M γ _ (by omega) _) ?_
    simp (disch := decide) only [wset_swap, wset_wset, ws_same, ws_ne, wh_ws]
    exact v_vret X rfl (Nat.le_of_ble_eq_true rfl) (Nat.le_of_ble_eq_true rfl) dX7_falls_98 ⟨rfl, congrArg (fun z => rdw γ (wset w 10 z)) (by unfold q_falls; first | rw [if_neg c_1] | rw [if_pos c_1, e4, nI_clamp (by omega)])⟩
  · obtain ⟨cc, hcc, e4⟩ := in_nat (by decide) c_1
    rw [e4]
    refine v_aload_n X rfl dX7_falls_68 ?_
    refine v_getf X fd_X7_7 (rd_Model γ _) rfl dX7_falls_69 ?_
    refine v_iconst' X kc_3 dX7_falls_72 ?_
    refine v_iload X rfl dX7_falls_73 ?_
    refine v_imul' X (pk_mul _ _) dX7_falls_75 ?_
    refine v_iload_n X rfl dX7_falls_76 ?_
    refine v_iadd' X (nI_add _ _) dX7_falls_77 ?_
    refine v_dup2 X rfl rfl dX7_falls_78 ?_
    refine v_iald' X (v := ((q_f2 M a b) (((3 * cc) + b)))) (rd_M γ _) (((3 * cc) + b)) rfl (by omega) (by decide) (vw_at (by omega)) dX7_falls_79 ?_
    refine v_iload_n X rfl dX7_falls_80 ?_
    refine v_iadd X dX7_falls_81 ?_
    refine v_iast X (rd_M γ _) (((3 * cc) + b)) rfl (by omega) (by decide) dX7_falls_82 ?_
    refine v_eqh (uq_M γ _ (by omega) _) ?_
    simp (disch := decide) only [wset_swap, wset_wset, ws_same, ws_ne, wh_ws]
    refine v_goto (tgt := 98) X dX7_falls_83 (by decide) ?_
    exact v_vret X rfl (Nat.le_of_ble_eq_true rfl) (Nat.le_of_ble_eq_true rfl) dX7_falls_98 ⟨rfl, congrArg (fun z => rdw γ (wset w 10 z)) (by unfold q_falls; first | rw [if_neg c_1] | rw [if_pos c_1, e4, nI_clamp (by omega)])⟩
set_option maxHeartbeats 4000000 in
set_option maxRecDepth 100000 in
theorem c_X7_slides (l : Launch) (γ : Gm) (w : Wd) (M : Nat → Int32) (a b : Nat) (ha : a < 39) (hb : b < 3) : Cr l γ yX7_slides cX7_slides 5 none 0 0 0 0 [.ref (γ.1 + 86), .int (nI a), .int (nI b)] (rdw γ (wset w 10 M)) (Det none (rdw γ (wset w 10 (q_slides M a b)))) := by
  refine Cr_of [some (.ref (γ.1 + 86)), some (.int (nI a)), some (.int (nI b)), none, none] (by decide +kernel) (Nat.le_of_ble_eq_true rfl) rfl ?_
  intro p e s m args below meth c X
  refine v_aload_n X rfl dX7_slides_0 ?_
  refine v_getf X fd_X7_7 (rd_Model γ _) rfl dX7_slides_1 ?_
  refine v_iconst' X kc_3 dX7_slides_4 ?_
  refine v_iload_n X rfl dX7_slides_5 ?_
  refine v_imul' X (pk_mul _ _) dX7_slides_6 ?_
  refine v_iload_n X rfl dX7_slides_7 ?_
  refine v_iadd' X (nI_add _ _) dX7_slides_8 ?_
  refine v_iald' X (v := (M (((3 * a) + b)))) (rd_M γ _) (((3 * a) + b)) rfl (by omega) (by decide) (vw_at (by omega)) dX7_slides_9 ?_
  refine v_aload_n X rfl dX7_slides_10 ?_
  refine v_getf X fd_X7_7 (rd_Model γ _) rfl dX7_slides_11 ?_
  refine v_iconst' X kc_3 dX7_slides_14 ?_
  refine v_iload_n X rfl dX7_slides_15 ?_
  refine v_imul' X (pk_mul _ _) dX7_slides_16 ?_
  refine v_iconst' X kc_3 dX7_slides_17 ?_
  refine v_iadd' X (nI_add _ _) dX7_slides_18 ?_
  refine v_iload_n X rfl dX7_slides_19 ?_
  refine v_iadd' X (nI_add _ _) dX7_slides_20 ?_
  refine v_iald' X (v := (M ((((3 * a) + 3) + b)))) (rd_M γ _) ((((3 * a) + 3) + b)) rfl (by omega) (by decide) (vw_at (by omega)) dX7_slides_21 ?_
  refine v_isub X dX7_slides_22 ?_
  show V p l e _ s m args below meth c γ _ _ _ _ _ _ (.int (q_by M a b) :: _)
  refine v_istore_n X (Nat.le_of_ble_eq_true rfl) rfl dX7_slides_23 ?_
  refine v_iload_n X rfl dX7_slides_24 ?_
  refine v_aload_n X rfl dX7_slides_25 ?_
  refine v_getf X fd_X7_7 (rd_Model γ _) rfl dX7_slides_26 ?_
  refine v_sipush' X ks_228 dX7_slides_29 ?_
  refine v_iald' X (v := (M (228))) (rd_M γ _) (228) rfl (by omega) (by decide) (vw_at (by omega)) dX7_slides_32 ?_
  have jn58 : ∀ (u : Int32), u = (q_unit (q_by M a b) (M 228)) → V p l e { frames := 0, cells := 0, slots := 0, locals := 0 } s m args below meth c γ (MQ below (Qof γ (Det none (rdw γ (wset w 10 (q_slides M a b))))) args s 0 0 (Ag γ)) (rdw γ (wset w 10 M)) 0 0 58 [some (.ref (γ.1 + 86)), some (.int (nI a)), some (.int (nI b)), some (.int (q_by M a b)), none] [.int u] := by
    intro u hu
    subst hu
    refine v_istore X (Nat.le_of_ble_eq_true rfl) rfl dX7_slides_58 ?_
    refine v_aload_n X rfl dX7_slides_60 ?_
    refine v_getf X fd_X7_7 (rd_Model γ _) rfl dX7_slides_61 ?_
    refine v_iconst' X kc_3 dX7_slides_64 ?_
    refine v_iload_n X rfl dX7_slides_65 ?_
    refine v_imul' X (pk_mul _ _) dX7_slides_66 ?_
    refine v_iload_n X rfl dX7_slides_67 ?_
    refine v_iadd' X (nI_add _ _) dX7_slides_68 ?_
    refine v_dup2 X rfl rfl dX7_slides_69 ?_
    refine v_iald' X (v := (M (((3 * a) + b)))) (rd_M γ _) (((3 * a) + b)) rfl (by omega) (by decide) (vw_at (by omega)) dX7_slides_70 ?_
    refine v_iload X rfl dX7_slides_71 ?_
    refine v_isub X dX7_slides_73 ?_
    refine v_iast X (rd_M γ _) (((3 * a) + b)) rfl (by omega) (by decide) dX7_slides_74 ?_
    refine v_eqh (uq_M γ _ (by omega) _) ?_
    simp (disch := decide) only [wset_swap, wset_wset, ws_same, ws_ne, wh_ws]
    refine v_aload_n X rfl dX7_slides_75 ?_
    refine v_getf X fd_X7_7 (rd_Model γ _) rfl dX7_slides_76 ?_
    refine v_iconst' X kc_3 dX7_slides_79 ?_
    refine v_iload_n X rfl dX7_slides_80 ?_
    refine v_imul' X (pk_mul _ _) dX7_slides_81 ?_
    refine v_iconst' X kc_3 dX7_slides_82 ?_
    refine v_iadd' X (nI_add _ _) dX7_slides_83 ?_
    refine v_iload_n X rfl dX7_slides_84 ?_
    refine v_iadd' X (nI_add _ _) dX7_slides_85 ?_
    refine v_dup2 X rfl rfl dX7_slides_86 ?_
    refine v_iald' X (v := ((upd M (((3 * a) + b)) ((M (((3 * a) + b))) - (q_unit (q_by M a b) (M 228)))) ((((3 * a) + 3) + b)))) (rd_M γ _) ((((3 * a) + 3) + b)) rfl (by omega) (by decide) (vw_at (by omega)) dX7_slides_87 ?_
    refine v_iload X rfl dX7_slides_88 ?_
    refine v_iadd X dX7_slides_90 ?_
    refine v_iast X (rd_M γ _) ((((3 * a) + 3) + b)) rfl (by omega) (by decide) dX7_slides_91 ?_
    refine v_eqh (uq_M γ _ (by omega) _) ?_
    simp (disch := decide) only [wset_swap, wset_wset, ws_same, ws_ne, wh_ws]
    exact v_vret X rfl (Nat.le_of_ble_eq_true rfl) (Nat.le_of_ble_eq_true rfl) dX7_slides_92 ⟨rfl, rfl⟩
  refine v_icmp_le (tgt := 40) X dX7_slides_33 (by decide) (fun c_1 => ?_) (fun c_1 => ?_)
  · refine v_iload_n X rfl dX7_slides_40 ?_
    refine v_ineg X dX7_slides_41 ?_
    refine v_aload_n X rfl dX7_slides_42 ?_
    refine v_getf X fd_X7_7 (rd_Model γ _) rfl dX7_slides_43 ?_
    refine v_sipush' X ks_228 dX7_slides_46 ?_
    refine v_iald' X (v := (M (228))) (rd_M γ _) (228) rfl (by omega) (by decide) (vw_at (by omega)) dX7_slides_49 ?_
    refine v_icmp_le (tgt := 57) X dX7_slides_50 (by decide) (fun c_2 => ?_) (fun c_2 => ?_)
    · refine v_iconst' X kc_0 dX7_slides_57 ?_
      exact v_Ln (jn58 _ (by unfold q_unit; first | rw [if_neg c_1] | rw [if_pos c_1, if_neg c_2] | rw [if_pos c_1, if_pos c_2])) ⟨Or.inr rfl, Or.inr rfl, Or.inr rfl, Or.inr rfl, Or.inl rfl, trivial⟩
    · refine v_iconst' X kc_m1 dX7_slides_53 ?_
      refine v_goto (tgt := 58) X dX7_slides_54 (by decide) ?_
      exact v_Ln (jn58 _ (by unfold q_unit; first | rw [if_neg c_1] | rw [if_pos c_1, if_neg c_2] | rw [if_pos c_1, if_pos c_2])) ⟨Or.inr rfl, Or.inr rfl, Or.inr rfl, Or.inr rfl, Or.inl rfl, trivial⟩
  · refine v_iconst' X kc_1 dX7_slides_36 ?_
    refine v_goto (tgt := 58) X dX7_slides_37 (by decide) ?_
    exact v_Ln (jn58 _ (by unfold q_unit; first | rw [if_neg c_1] | rw [if_pos c_1, if_neg c_2] | rw [if_pos c_1, if_pos c_2])) ⟨Or.inr rfl, Or.inr rfl, Or.inr rfl, Or.inr rfl, Or.inl rfl, trivial⟩
set_option maxHeartbeats 4000000 in
set_option maxRecDepth 100000 in
theorem c_X7_spills (l : Launch) (γ : Gm) (w : Wd) (M : Nat → Int32) (a b : Nat) (ha : a < 40) (hb : b < 3) : Cr l γ yX7_spills cX7_spills 4 none 0 0 0 0 [.ref (γ.1 + 86), .int (nI a), .int (nI b)] (rdw γ (wset w 10 M)) (Det none (rdw γ (wset w 10 (q_spills M a b)))) := by
  refine Cr_of [some (.ref (γ.1 + 86)), some (.int (nI a)), some (.int (nI b)), none] (by decide +kernel) (Nat.le_of_ble_eq_true rfl) rfl ?_
  intro p e s m args below meth c X
  refine v_aload_n X rfl dX7_spills_0 ?_
  refine v_getf X fd_X7_7 (rd_Model γ _) rfl dX7_spills_1 ?_
  refine v_iconst' X kc_3 dX7_spills_4 ?_
  refine v_iload_n X rfl dX7_spills_5 ?_
  refine v_imul' X (pk_mul _ _) dX7_spills_6 ?_
  refine v_iload_n X rfl dX7_spills_7 ?_
  refine v_iadd' X (nI_add _ _) dX7_spills_8 ?_
  refine v_iald' X (v := (M (((3 * a) + b)))) (rd_M γ _) (((3 * a) + b)) rfl (by omega) (by decide) (vw_at (by omega)) dX7_spills_9 ?_
  refine v_aload_n X rfl dX7_spills_10 ?_
  refine v_getf X fd_X7_7 (rd_Model γ _) rfl dX7_spills_11 ?_
  refine v_sipush' X ks_229 dX7_spills_14 ?_
  refine v_iald' X (v := (M (229))) (rd_M γ _) (229) rfl (by omega) (by decide) (vw_at (by omega)) dX7_spills_17 ?_
  refine v_isub X dX7_spills_18 ?_
  show V p l e _ s m args below meth c γ _ _ _ _ _ _ (.int (q_over M a b) :: _)
  refine v_istore_n X (Nat.le_of_ble_eq_true rfl) rfl dX7_spills_19 ?_
  refine v_aload_n X rfl dX7_spills_20 ?_
  refine v_getf X fd_X7_7 (rd_Model γ _) rfl dX7_spills_21 ?_
  refine v_iconst' X kc_3 dX7_spills_24 ?_
  refine v_iload_n X rfl dX7_spills_25 ?_
  refine v_imul' X (pk_mul _ _) dX7_spills_26 ?_
  refine v_iload_n X rfl dX7_spills_27 ?_
  refine v_iadd' X (nI_add _ _) dX7_spills_28 ?_
  refine v_dup2 X rfl rfl dX7_spills_29 ?_
  refine v_iald' X (v := (M (((3 * a) + b)))) (rd_M γ _) (((3 * a) + b)) rfl (by omega) (by decide) (vw_at (by omega)) dX7_spills_30 ?_
  refine v_iload_n X rfl dX7_spills_31 ?_
  have jn40 : ∀ (u : Int32), u = (q_pos (q_over M a b)) → V p l e { frames := 0, cells := 0, slots := 0, locals := 0 } s m args below meth c γ (MQ below (Qof γ (Det none (rdw γ (wset w 10 (q_spills M a b))))) args s 0 0 (Ag γ)) (rdw γ (wset w 10 M)) 0 0 40 [some (.ref (γ.1 + 86)), some (.int (nI a)), some (.int (nI b)), some (.int (q_over M a b))] [.int u, .int (M (3 * a + b)), .int (nI (3 * a + b)), .ref (γ.1 + 87)] := by
    intro u hu
    subst hu
    refine v_isub X dX7_spills_40 ?_
    refine v_iast X (rd_M γ _) ((3 * a + b)) rfl (by omega) (by decide) dX7_spills_41 ?_
    refine v_eqh (uq_M γ _ (by omega) _) ?_
    simp (disch := decide) only [wset_swap, wset_wset, ws_same, ws_ne, wh_ws]
    show V p l e _ s m args below meth c γ _ (rdw γ (wset w 10 (q_p1 M a b))) _ _ _ _ _
    refine v_aload_n X rfl dX7_spills_42 ?_
    refine v_getf X fd_X7_7 (rd_Model γ _) rfl dX7_spills_43 ?_
    refine v_sipush' X ks_226 dX7_spills_46 ?_
    refine v_dup2 X rfl rfl dX7_spills_49 ?_
    refine v_iald' X (v := ((q_p1 M a b) (226))) (rd_M γ _) (226) rfl (by omega) (by decide) (vw_at (by omega)) dX7_spills_50 ?_
    refine v_iload_n X rfl dX7_spills_51 ?_
    have jn60 : ∀ (u : Int32), u = (q_pos (q_over M a b)) → V p l e { frames := 0, cells := 0, slots := 0, locals := 0 } s m args below meth c γ (MQ below (Qof γ (Det none (rdw γ (wset w 10 (q_spills M a b))))) args s 0 0 (Ag γ)) (rdw γ (wset w 10 (q_p1 M a b))) 0 0 60 [some (.ref (γ.1 + 86)), some (.int (nI a)), some (.int (nI b)), some (.int (q_over M a b))] [.int u, .int (q_p1 M a b 226), .int (nI 226), .ref (γ.1 + 87)] := by
      intro u hu
      subst hu
      refine v_iadd X dX7_spills_60 ?_
      refine v_iast X (rd_M γ _) (226) rfl (by omega) (by decide) dX7_spills_61 ?_
      refine v_eqh (uq_M γ _ (by omega) _) ?_
      simp (disch := decide) only [wset_swap, wset_wset, ws_same, ws_ne, wh_ws]
      exact v_vret X rfl (Nat.le_of_ble_eq_true rfl) (Nat.le_of_ble_eq_true rfl) dX7_spills_62 ⟨rfl, rfl⟩
    refine v_if_le (tgt := 59) X dX7_spills_52 (by decide) (fun c_1 => ?_) (fun c_1 => ?_)
    · refine v_iconst' X kc_0 dX7_spills_59 ?_
      exact (jn60 _ (by unfold q_pos; first | rw [if_pos c_1] | rw [if_neg c_1]))
    · refine v_iload_n X rfl dX7_spills_55 ?_
      refine v_goto (tgt := 60) X dX7_spills_56 (by decide) ?_
      exact (jn60 _ (by unfold q_pos; first | rw [if_pos c_1] | rw [if_neg c_1]))
  refine v_if_le (tgt := 39) X dX7_spills_32 (by decide) (fun c_1 => ?_) (fun c_1 => ?_)
  · refine v_iconst' X kc_0 dX7_spills_39 ?_
    exact (jn40 _ (by unfold q_pos; first | rw [if_pos c_1] | rw [if_neg c_1]))
  · refine v_iload_n X rfl dX7_spills_35 ?_
    refine v_goto (tgt := 40) X dX7_spills_36 (by decide) ?_
    exact (jn40 _ (by unfold q_pos; first | rw [if_pos c_1] | rw [if_neg c_1]))
set_option maxHeartbeats 4000000 in
set_option maxRecDepth 100000 in
theorem c_X7_closes (l : Launch) (γ : Gm) (w : Wd) (M : Nat → Int32) (a b : Nat) (ha : a < 6) (hb : b < 3) : Cr l γ yX7_closes cX7_closes 5 none 1 23 0 0 [.ref (γ.1 + 86), .int (nI a), .int (nI b)] (rdw γ (wset w 10 M)) (Det none (rdw γ (wset w 10 (q_closes M a b)))) := by
  refine Cr_of [some (.ref (γ.1 + 86)), some (.int (nI a)), some (.int (nI b)), none, none] (by decide +kernel) (Nat.le_of_ble_eq_true rfl) rfl ?_
  intro p e s m args below meth c X
  refine v_aload_n X rfl dX7_closes_0 ?_
  refine v_iload_n X rfl dX7_closes_1 ?_
  refine v_iconst' X kc_5 dX7_closes_2 ?_
  refine v_iload_n X rfl dX7_closes_3 ?_
  refine v_iadd' X (nI_add _ _) dX7_closes_4 ?_
  refine v_callV (ci := 8) X mv_X7_90 (c_X7_of l γ _ _ a ((5 + b)) (by omega)) rfl rfl (rd_Model γ _) rfl ⟨Nat.le_of_ble_eq_true rfl, Nat.le_of_ble_eq_true rfl, Nat.le_of_ble_eq_true rfl, Nat.le_of_ble_eq_true rfl⟩ (Nat.le_of_ble_eq_true rfl) rfl dX7_closes_5 rfl (det_i ?_)
  refine v_istore_n X (Nat.le_of_ble_eq_true rfl) rfl dX7_closes_8 ?_
  refine v_iload_n X rfl dX7_closes_9 ?_
  refine v_if_le (tgt := 27) X dX7_closes_10 (by decide) (fun c_1 => ?_) (fun c_1 => ?_)
  · refine v_iload_n X rfl dX7_closes_27 ?_
    refine v_if_ne (tgt := 105) X dX7_closes_28 (by decide) (fun c_2 => ?_) (fun c_2 => ?_)
    · exact v_vret X rfl (Nat.le_of_ble_eq_true rfl) (Nat.le_of_ble_eq_true rfl) dX7_closes_105 ⟨rfl, congrArg (fun z => rdw γ (wset w 10 z)) (by unfold q_closes q_c1 q_jam; first | rw [if_neg c_1] | rw [if_pos c_1, if_neg c_2] | (rw [if_pos c_1, if_pos c_2]; first | rw [if_pos c_3] | rw [if_neg c_3]))⟩
    · refine v_aload_n X rfl dX7_closes_31 ?_
      refine v_iload_n X rfl dX7_closes_32 ?_
      refine v_iconst' X kc_0 dX7_closes_33 ?_
      refine v_callV (ci := 8) X mv_X7_90 (c_X7_of l γ _ _ a 0 (by omega)) rfl rfl (rd_Model γ _) rfl ⟨Nat.le_of_ble_eq_true rfl, Nat.le_of_ble_eq_true rfl, Nat.le_of_ble_eq_true rfl, Nat.le_of_ble_eq_true rfl⟩ (Nat.le_of_ble_eq_true rfl) rfl dX7_closes_34 rfl (det_i ?_)
      refine v_aload_n X rfl dX7_closes_37 ?_
      refine v_getf X fd_X7_7 (rd_Model γ _) rfl dX7_closes_38 ?_
      refine v_sipush' X ks_231 dX7_closes_41 ?_
      refine v_iald' X (v := (M (231))) (rd_M γ _) (231) rfl (by omega) (by decide) (vw_at (by omega)) dX7_closes_44 ?_
      refine v_icmp_le (tgt := 52) X dX7_closes_45 (by decide) (fun c_3 => ?_) (fun c_3 => ?_)
      · refine v_iconst' X kc_0 dX7_closes_52 ?_
        refine v_istore X (Nat.le_of_ble_eq_true rfl) rfl dX7_closes_53 ?_
        refine v_aload_n X rfl dX7_closes_55 ?_
        refine v_iload_n X rfl dX7_closes_56 ?_
        refine v_iconst' X kc_2 dX7_closes_57 ?_
        refine v_iload_n X rfl dX7_closes_58 ?_
        refine v_iadd' X (nI_add _ _) dX7_closes_59 ?_
        refine v_iload X rfl dX7_closes_60 ?_
        refine v_if_eq_t (tgt := 69) X dX7_closes_62 (by decide) (by decide) ?_
        refine v_iconst' X kc_0 dX7_closes_69 ?_
        refine v_callV (ci := 8) X mv_X7_33 (c_X7_put l γ _ _ a ((2 + b)) (by omega) _) rfl rfl (rd_Model γ _) rfl ⟨Nat.le_of_ble_eq_true rfl, Nat.le_of_ble_eq_true rfl, Nat.le_of_ble_eq_true rfl, Nat.le_of_ble_eq_true rfl⟩ (Nat.le_of_ble_eq_true rfl) rfl dX7_closes_70 rfl (det_v ?_)
        refine v_aload_n X rfl dX7_closes_73 ?_
        refine v_iload_n X rfl dX7_closes_74 ?_
        refine v_iconst' X kc_5 dX7_closes_75 ?_
        refine v_iload_n X rfl dX7_closes_76 ?_
        refine v_iadd' X (nI_add _ _) dX7_closes_77 ?_
        refine v_sipush' X ks_m1001 dX7_closes_78 ?_
        refine v_callV (ci := 8) X mv_X7_33 (c_X7_put l γ _ _ a ((5 + b)) (by omega) _) rfl rfl (rd_Model γ _) rfl ⟨Nat.le_of_ble_eq_true rfl, Nat.le_of_ble_eq_true rfl, Nat.le_of_ble_eq_true rfl, Nat.le_of_ble_eq_true rfl⟩ (Nat.le_of_ble_eq_true rfl) rfl dX7_closes_81 rfl (det_v ?_)
        refine v_aload_n X rfl dX7_closes_84 ?_
        refine v_getf X fd_X7_7 (rd_Model γ _) rfl dX7_closes_85 ?_
        refine v_sipush' X ks_224 dX7_closes_88 ?_
        refine v_dup2 X rfl rfl dX7_closes_91 ?_
        refine v_iald' X (v := ((upd (upd M (120 + 8 * a + ((2 + b))) (nI 0)) (120 + 8 * a + ((5 + b))) (-1001)) (224))) (rd_M γ _) (224) rfl (by omega) (by decide) (vw_at (by omega)) dX7_closes_92 ?_
        refine v_iload X rfl dX7_closes_93 ?_
        refine v_if_eq_t (tgt := 102) X dX7_closes_95 (by decide) (by decide) ?_
        refine v_iconst' X kc_0 dX7_closes_102 ?_
        refine v_iadd X dX7_closes_103 ?_
        refine v_iast X (rd_M γ _) (224) rfl (by omega) (by decide) dX7_closes_104 ?_
        refine v_eqh (uq_M γ _ (by omega) _) ?_
        simp (disch := decide) only [wset_swap, wset_wset, ws_same, ws_ne, wh_ws]
        exact v_vret X rfl (Nat.le_of_ble_eq_true rfl) (Nat.le_of_ble_eq_true rfl) dX7_closes_105 ⟨rfl, congrArg (fun z => rdw γ (wset w 10 z)) (by unfold q_closes q_c1 q_jam; first | rw [if_neg c_1] | rw [if_pos c_1, if_neg c_2] | (rw [if_pos c_1, if_pos c_2]; first | rw [if_pos c_3] | rw [if_neg c_3]))⟩
      · refine v_iconst' X kc_1 dX7_closes_48 ?_
        refine v_goto (tgt := 53) X dX7_closes_49 (by decide) ?_
        refine v_istore X (Nat.le_of_ble_eq_true rfl) rfl dX7_closes_53 ?_
        refine v_aload_n X rfl dX7_closes_55 ?_
        refine v_iload_n X rfl dX7_closes_56 ?_
        refine v_iconst' X kc_2 dX7_closes_57 ?_
        refine v_iload_n X rfl dX7_closes_58 ?_
        refine v_iadd' X (nI_add _ _) dX7_closes_59 ?_
        refine v_iload X rfl dX7_closes_60 ?_
        refine v_if_eq_f (tgt := 69) X dX7_closes_62 (by decide) (by decide) ?_
        refine v_iconst' X kc_1 dX7_closes_65 ?_
        refine v_goto (tgt := 70) X dX7_closes_66 (by decide) ?_
        refine v_callV (ci := 8) X mv_X7_33 (c_X7_put l γ _ _ a ((2 + b)) (by omega) _) rfl rfl (rd_Model γ _) rfl ⟨Nat.le_of_ble_eq_true rfl, Nat.le_of_ble_eq_true rfl, Nat.le_of_ble_eq_true rfl, Nat.le_of_ble_eq_true rfl⟩ (Nat.le_of_ble_eq_true rfl) rfl dX7_closes_70 rfl (det_v ?_)
        refine v_aload_n X rfl dX7_closes_73 ?_
        refine v_iload_n X rfl dX7_closes_74 ?_
        refine v_iconst' X kc_5 dX7_closes_75 ?_
        refine v_iload_n X rfl dX7_closes_76 ?_
        refine v_iadd' X (nI_add _ _) dX7_closes_77 ?_
        refine v_sipush' X ks_m1001 dX7_closes_78 ?_
        refine v_callV (ci := 8) X mv_X7_33 (c_X7_put l γ _ _ a ((5 + b)) (by omega) _) rfl rfl (rd_Model γ _) rfl ⟨Nat.le_of_ble_eq_true rfl, Nat.le_of_ble_eq_true rfl, Nat.le_of_ble_eq_true rfl, Nat.le_of_ble_eq_true rfl⟩ (Nat.le_of_ble_eq_true rfl) rfl dX7_closes_81 rfl (det_v ?_)
        refine v_aload_n X rfl dX7_closes_84 ?_
        refine v_getf X fd_X7_7 (rd_Model γ _) rfl dX7_closes_85 ?_
        refine v_sipush' X ks_224 dX7_closes_88 ?_
        refine v_dup2 X rfl rfl dX7_closes_91 ?_
        refine v_iald' X (v := ((upd (upd M (120 + 8 * a + ((2 + b))) (nI 1)) (120 + 8 * a + ((5 + b))) (-1001)) (224))) (rd_M γ _) (224) rfl (by omega) (by decide) (vw_at (by omega)) dX7_closes_92 ?_
        refine v_iload X rfl dX7_closes_93 ?_
        refine v_if_eq_f (tgt := 102) X dX7_closes_95 (by decide) (by decide) ?_
        refine v_iconst' X kc_1 dX7_closes_98 ?_
        refine v_goto (tgt := 103) X dX7_closes_99 (by decide) ?_
        refine v_iadd X dX7_closes_103 ?_
        refine v_iast X (rd_M γ _) (224) rfl (by omega) (by decide) dX7_closes_104 ?_
        refine v_eqh (uq_M γ _ (by omega) _) ?_
        simp (disch := decide) only [wset_swap, wset_wset, ws_same, ws_ne, wh_ws]
        exact v_vret X rfl (Nat.le_of_ble_eq_true rfl) (Nat.le_of_ble_eq_true rfl) dX7_closes_105 ⟨rfl, congrArg (fun z => rdw γ (wset w 10 z)) (by unfold q_closes q_c1 q_jam; first | rw [if_neg c_1] | rw [if_pos c_1, if_neg c_2] | (rw [if_pos c_1, if_pos c_2]; first | rw [if_pos c_3] | rw [if_neg c_3]))⟩
  · refine v_aload_n X rfl dX7_closes_13 ?_
    refine v_iload_n X rfl dX7_closes_14 ?_
    refine v_iconst' X kc_5 dX7_closes_15 ?_
    refine v_iload_n X rfl dX7_closes_16 ?_
    refine v_iadd' X (nI_add _ _) dX7_closes_17 ?_
    refine v_iload_n X rfl dX7_closes_18 ?_
    refine v_iconst' X kc_1 dX7_closes_19 ?_
    refine v_isub X dX7_closes_20 ?_
    refine v_callV (ci := 8) X mv_X7_33 (c_X7_put l γ _ _ a ((5 + b)) (by omega) _) rfl rfl (rd_Model γ _) rfl ⟨Nat.le_of_ble_eq_true rfl, Nat.le_of_ble_eq_true rfl, Nat.le_of_ble_eq_true rfl, Nat.le_of_ble_eq_true rfl⟩ (Nat.le_of_ble_eq_true rfl) rfl dX7_closes_21 rfl (det_v ?_)
    refine v_goto (tgt := 105) X dX7_closes_24 (by decide) ?_
    exact v_vret X rfl (Nat.le_of_ble_eq_true rfl) (Nat.le_of_ble_eq_true rfl) dX7_closes_105 ⟨rfl, congrArg (fun z => rdw γ (wset w 10 z)) (by unfold q_closes q_c1 q_jam; first | rw [if_neg c_1] | rw [if_pos c_1, if_neg c_2] | (rw [if_pos c_1, if_pos c_2]; first | rw [if_pos c_3] | rw [if_neg c_3]))⟩
set_option maxHeartbeats 4000000 in
set_option maxRecDepth 100000 in
theorem c_X7_ordersDue (l : Launch) (γ : Gm) (w : Wd) (M : Nat → Int32) (cn q : Nat) (hcn : M 218 = nI cn) (h1 : 1 ≤ cn) (h6 : cn ≤ 6) (hq : M 223 = nI q) (h10 : q ≤ 10) (ho : ∀ t, t < q → OV M t) : Cr l γ yX7_ordersDue cX7_ordersDue 3 none 3 65 0 0 [.ref (γ.1 + 86)] (rdw γ (wset w 10 M)) (Det none (rdw γ (wset w 10 (q_ord cn q 0 M)))) := by
  refine Cr_of [some (.ref (γ.1 + 86)), none, none] (by decide +kernel) (Nat.le_of_ble_eq_true rfl) rfl ?_
  intro p e s m args below meth c X
  refine v_iconst' X kc_0 dX7_ordersDue_0 ?_
  refine v_istore_n X (Nat.le_of_ble_eq_true rfl) rfl dX7_ordersDue_1 ?_
  have lp2 : ∀ (n : Nat) (i r : Nat) (N : Nat → Int32), r + 1 ≤ n ∧ i + r ≤ 10 → N 218 = nI cn → N 223 = nI (i + r) → (∀ t, t < i + r → OV N t) → q_ord cn r i N = q_ord cn q 0 M → V p l e { frames := 3, cells := 0, slots := 0, locals := 65 } s m args below meth c γ (MQ below (Qof γ (Det none (rdw γ (wset w 10 (q_ord cn q 0 M))))) args s 0 0 (Ag γ)) (rdw γ (wset w 10 N)) 0 0 2 [some (.ref (γ.1 + 86)), some (.int (nI i)), none] [] := by
    intro n
    induction n with
    | zero =>
      intro i r N hbd
      exact absurd hbd (by omega)
    | succ n ih =>
      intro i r N hbd hN hQ hO hF
      refine v_iload_n X rfl dX7_ordersDue_2 ?_
      refine v_aload_n X rfl dX7_ordersDue_3 ?_
      refine v_getf X fd_X7_7 (rd_Model γ _) rfl dX7_ordersDue_4 ?_
      refine v_sipush' X ks_223 dX7_ordersDue_7 ?_
      refine v_iald' X (v := nI (i + r)) (rd_M γ _) (223) rfl (by omega) (by decide) ((vw_at (by omega)).trans hQ) dX7_ordersDue_10 ?_
      refine v_icmp_ge_n (tgt := 118) X dX7_ordersDue_11 (by decide) (by omega) (by omega) (fun c_1 => ?_) (fun c_1 => ?_)
      · have hr : r = 0 := by omega
        subst hr
        exact v_vret X rfl (Nat.le_of_ble_eq_true rfl) (Nat.le_of_ble_eq_true rfl) dX7_ordersDue_118 ⟨rfl, congrArg (fun z => rdw γ (wset w 10 z)) hF⟩
      · obtain ⟨z, rfl⟩ : ∃ z, r = z + 1 := ⟨r - 1, by omega⟩
        have hOi := hO i (by omega)
        refine v_sipush' X ks_168 dX7_ordersDue_14 ?_
        refine v_iconst' X kc_5 dX7_ordersDue_17 ?_
        refine v_iload_n X rfl dX7_ordersDue_18 ?_
        refine v_imul' X (pk_mul _ _) dX7_ordersDue_19 ?_
        refine v_iadd' X (nI_add _ _) dX7_ordersDue_20 ?_
        refine v_istore_n X (Nat.le_of_ble_eq_true rfl) rfl dX7_ordersDue_21 ?_
        refine v_aload_n X rfl dX7_ordersDue_22 ?_
        refine v_iload_n X rfl dX7_ordersDue_23 ?_
        refine v_callV (ci := 8) X mv_X7_93 (c_X7_isDue l γ _ _ cn hN h1 h6 i (by omega)) rfl rfl (rd_Model γ _) rfl ⟨Nat.le_of_ble_eq_true rfl, Nat.le_of_ble_eq_true rfl, Nat.le_of_ble_eq_true rfl, Nat.le_of_ble_eq_true rfl⟩ (Nat.le_of_ble_eq_true rfl) rfl dX7_ordersDue_24 rfl (det_i ?_)
        refine v_if_eq (tgt := 112) X dX7_ordersDue_27 (by decide) (fun c_2 => ?_) (fun c_2 => ?_)
        · have hback := ih (i + 1) z N ⟨by omega, by omega⟩ hN (by rw [hQ]; congr 1; omega) (fun t ht => hO t (by omega)) (by rw [← hF]; exact (if_pos c_2).symm)
          refine v_iinc' X rfl rfl (nI_inc _) dX7_ordersDue_112 ?_
          refine v_goto (tgt := 2) X dX7_ordersDue_115 (by decide) ?_
          exact v_Ln (hback) ⟨Or.inr rfl, Or.inr rfl, Or.inl rfl, trivial⟩
        · have hA1 : q_act N i 218 = nI cn := (q_act_off N hOi (by omega) (by omega)).trans hN
          have hA2 : q_act N i 223 = nI (i + z + 1) := (q_act_off N hOi (by omega) (by omega)).trans hQ
          have hback := ih i z (q_drop (q_act N i) (i + z) i) ⟨by omega, by omega⟩ ((q_drop_off _ (by omega) (by omega) (by omega)).trans hA1) (q_drop223 _ _ _ _ (by omega)) (OV_drop (by omega) (by omega) (fun t ht => OV_congr (by omega) (fun z h3 h4 => q_act_off N hOi (Or.inr (by omega)) (by omega)) (hO t (by omega)))) (by rw [← hF]; show _ = if _ then _ else _; rw [if_neg c_2, hQ, nI_clamp (by omega), show i + (z + 1) - 1 = i + z by omega])
          refine v_aload_n X rfl dX7_ordersDue_30 ?_
          refine v_getf X fd_X7_7 (rd_Model γ _) rfl dX7_ordersDue_31 ?_
          refine v_iload_n X rfl dX7_ordersDue_34 ?_
          refine v_iconst' X kc_1 dX7_ordersDue_35 ?_
          refine v_iadd' X (nI_add _ _) dX7_ordersDue_36 ?_
          refine v_iald' X (v := (N (((168 + (5 * i)) + 1)))) (rd_M γ _) (((168 + (5 * i)) + 1)) rfl (by omega) (by decide) (vw_at (by omega)) dX7_ordersDue_37 ?_
          refine v_iconst' X kc_2 dX7_ordersDue_38 ?_
          refine v_icmp_ne (tgt := 61) X dX7_ordersDue_39 (by decide) (fun c_3 => ?_) (fun c_3 => ?_)
          · obtain ⟨wg, dr, hw, hd, e1, e2⟩ := hOi.resolve_left c_3
            refine v_aload_n X rfl dX7_ordersDue_61 ?_
            refine v_aload_n X rfl dX7_ordersDue_62 ?_
            refine v_getf X fd_X7_7 (rd_Model γ _) rfl dX7_ordersDue_63 ?_
            refine v_iload_n X rfl dX7_ordersDue_66 ?_
            refine v_iconst' X kc_2 dX7_ordersDue_67 ?_
            refine v_iadd' X (nI_add _ _) dX7_ordersDue_68 ?_
            refine v_iald' X (v := nI wg) (rd_M γ _) (((168 + (5 * i)) + 2)) rfl (by omega) (by decide) ((vw_at (by omega)).trans e1) dX7_ordersDue_69 ?_
            refine v_aload_n X rfl dX7_ordersDue_70 ?_
            refine v_getf X fd_X7_7 (rd_Model γ _) rfl dX7_ordersDue_71 ?_
            refine v_iload_n X rfl dX7_ordersDue_74 ?_
            refine v_iconst' X kc_3 dX7_ordersDue_75 ?_
            refine v_iadd' X (nI_add _ _) dX7_ordersDue_76 ?_
            refine v_iald' X (v := nI dr) (rd_M γ _) (((168 + (5 * i)) + 3)) rfl (by omega) (by decide) ((vw_at (by omega)).trans e2) dX7_ordersDue_77 ?_
            refine v_aload_n X rfl dX7_ordersDue_78 ?_
            refine v_getf X fd_X7_7 (rd_Model γ _) rfl dX7_ordersDue_79 ?_
            refine v_iload_n X rfl dX7_ordersDue_82 ?_
            refine v_iconst' X kc_1 dX7_ordersDue_83 ?_
            refine v_iadd' X (nI_add _ _) dX7_ordersDue_84 ?_
            refine v_iald' X (v := (N (((168 + (5 * i)) + 1)))) (rd_M γ _) (((168 + (5 * i)) + 1)) rfl (by omega) (by decide) (vw_at (by omega)) dX7_ordersDue_85 ?_
            refine v_if_ne (tgt := 100) X dX7_ordersDue_86 (by decide) (fun c_4 => ?_) (fun c_4 => ?_)
            · refine v_iconst' X kc_0 dX7_ordersDue_100 ?_
              refine v_callV (ci := 8) X mv_X7_96 (c_X7_moves l γ _ _ wg dr (by omega) (by omega) _) rfl rfl (rd_Model γ _) rfl ⟨Nat.le_of_ble_eq_true rfl, Nat.le_of_ble_eq_true rfl, Nat.le_of_ble_eq_true rfl, Nat.le_of_ble_eq_true rfl⟩ (Nat.le_of_ble_eq_true rfl) rfl dX7_ordersDue_101 rfl (det_v ?_)
              first | rw [show q_moves N wg dr (N (168 + 5 * i + 4)) = q_act N i from by rw [q_act_m c_3 hw hd e1 e2, if_pos c_4]] | rw [show q_moves N wg dr (nI 0) = q_act N i from by rw [q_act_m c_3 hw hd e1 e2, if_neg c_4]]
              refine v_aload_n X rfl dX7_ordersDue_104 ?_
              refine v_iload_n X rfl dX7_ordersDue_105 ?_
              refine v_callV (ci := 8) X mv_X7_99 (c_X7_dropsOrder l γ _ _ (i + z) i hA2 (by omega) (by omega)) rfl rfl (rd_Model γ _) rfl ⟨Nat.le_of_ble_eq_true rfl, Nat.le_of_ble_eq_true rfl, Nat.le_of_ble_eq_true rfl, Nat.le_of_ble_eq_true rfl⟩ (Nat.le_of_ble_eq_true rfl) rfl dX7_ordersDue_106 rfl (det_v ?_)
              refine v_goto (tgt := 115) X dX7_ordersDue_109 (by decide) ?_
              refine v_goto (tgt := 2) X dX7_ordersDue_115 (by decide) ?_
              exact v_Ln (hback) ⟨Or.inr rfl, Or.inr rfl, Or.inl rfl, trivial⟩
            · refine v_aload_n X rfl dX7_ordersDue_89 ?_
              refine v_getf X fd_X7_7 (rd_Model γ _) rfl dX7_ordersDue_90 ?_
              refine v_iload_n X rfl dX7_ordersDue_93 ?_
              refine v_iconst' X kc_4 dX7_ordersDue_94 ?_
              refine v_iadd' X (nI_add _ _) dX7_ordersDue_95 ?_
              refine v_iald' X (v := (N (((168 + (5 * i)) + 4)))) (rd_M γ _) (((168 + (5 * i)) + 4)) rfl (by omega) (by decide) (vw_at (by omega)) dX7_ordersDue_96 ?_
              refine v_goto (tgt := 101) X dX7_ordersDue_97 (by decide) ?_
              refine v_callV (ci := 8) X mv_X7_96 (c_X7_moves l γ _ _ wg dr (by omega) (by omega) _) rfl rfl (rd_Model γ _) rfl ⟨Nat.le_of_ble_eq_true rfl, Nat.le_of_ble_eq_true rfl, Nat.le_of_ble_eq_true rfl, Nat.le_of_ble_eq_true rfl⟩ (Nat.le_of_ble_eq_true rfl) rfl dX7_ordersDue_101 rfl (det_v ?_)
              first | rw [show q_moves N wg dr (N (168 + 5 * i + 4)) = q_act N i from by rw [q_act_m c_3 hw hd e1 e2, if_pos c_4]] | rw [show q_moves N wg dr (nI 0) = q_act N i from by rw [q_act_m c_3 hw hd e1 e2, if_neg c_4]]
              refine v_aload_n X rfl dX7_ordersDue_104 ?_
              refine v_iload_n X rfl dX7_ordersDue_105 ?_
              refine v_callV (ci := 8) X mv_X7_99 (c_X7_dropsOrder l γ _ _ (i + z) i hA2 (by omega) (by omega)) rfl rfl (rd_Model γ _) rfl ⟨Nat.le_of_ble_eq_true rfl, Nat.le_of_ble_eq_true rfl, Nat.le_of_ble_eq_true rfl, Nat.le_of_ble_eq_true rfl⟩ (Nat.le_of_ble_eq_true rfl) rfl dX7_ordersDue_106 rfl (det_v ?_)
              refine v_goto (tgt := 115) X dX7_ordersDue_109 (by decide) ?_
              refine v_goto (tgt := 2) X dX7_ordersDue_115 (by decide) ?_
              exact v_Ln (hback) ⟨Or.inr rfl, Or.inr rfl, Or.inl rfl, trivial⟩
          · refine v_aload_n X rfl dX7_ordersDue_42 ?_
            refine v_getf X fd_X7_7 (rd_Model γ _) rfl dX7_ordersDue_43 ?_
            refine v_sipush' X ks_221 dX7_ordersDue_46 ?_
            refine v_aload_n X rfl dX7_ordersDue_49 ?_
            refine v_getf X fd_X7_7 (rd_Model γ _) rfl dX7_ordersDue_50 ?_
            refine v_iload_n X rfl dX7_ordersDue_53 ?_
            refine v_iconst' X kc_4 dX7_ordersDue_54 ?_
            refine v_iadd' X (nI_add _ _) dX7_ordersDue_55 ?_
            refine v_iald' X (v := (N (((168 + (5 * i)) + 4)))) (rd_M γ _) (((168 + (5 * i)) + 4)) rfl (by omega) (by decide) (vw_at (by omega)) dX7_ordersDue_56 ?_
            refine v_iast X (rd_M γ _) (221) rfl (by omega) (by decide) dX7_ordersDue_57 ?_
            refine v_eqh (uq_M γ _ (by omega) _) ?_
            simp (disch := decide) only [wset_swap, wset_wset, ws_same, ws_ne, wh_ws]
            rw [show upd N 221 (N (168 + 5 * i + 4)) = q_act N i from by unfold q_act; rw [if_pos c_3]]
            refine v_goto (tgt := 104) X dX7_ordersDue_58 (by decide) ?_
            refine v_aload_n X rfl dX7_ordersDue_104 ?_
            refine v_iload_n X rfl dX7_ordersDue_105 ?_
            refine v_callV (ci := 8) X mv_X7_99 (c_X7_dropsOrder l γ _ _ (i + z) i hA2 (by omega) (by omega)) rfl rfl (rd_Model γ _) rfl ⟨Nat.le_of_ble_eq_true rfl, Nat.le_of_ble_eq_true rfl, Nat.le_of_ble_eq_true rfl, Nat.le_of_ble_eq_true rfl⟩ (Nat.le_of_ble_eq_true rfl) rfl dX7_ordersDue_106 rfl (det_v ?_)
            refine v_goto (tgt := 115) X dX7_ordersDue_109 (by decide) ?_
            refine v_goto (tgt := 2) X dX7_ordersDue_115 (by decide) ?_
            exact v_Ln (hback) ⟨Or.inr rfl, Or.inr rfl, Or.inl rfl, trivial⟩
  exact v_Ln (lp2 (q + 1) 0 q M ⟨by omega, by omega⟩ hcn (by rw [hq, Nat.zero_add]) (fun t ht => ho t (by omega)) rfl) ⟨Or.inr rfl, Or.inr rfl, Or.inl rfl, trivial⟩
set_option maxHeartbeats 4000000 in
set_option maxRecDepth 100000 in
theorem c_X7_second (l : Launch) (γ : Gm) (w : Wd) (M : Nat → Int32) (cn q : Nat) (hcn : M 218 = nI cn) (h1 : 1 ≤ cn) (h6 : cn ≤ 6) (hq : M 223 = nI q) (h10 : q ≤ 10) (ho : ∀ t, t < q → OV M t) : Cr l γ yX7_second cX7_second 2 none 4 87 0 0 [.ref (γ.1 + 86)] (rdw γ (wset w 10 M)) (Det none (rdw γ (wset w 10 (q_second M)))) := by
  have hp18 : q_pre M 218 = nI cn := (q_pre_off hcn hq h6 h10 ho (by omega) (by omega) (by omega) (by omega) (by omega)).trans hcn
  have e18 : (M 218).toNatClampNeg = cn := by rw [hcn]; exact nI_clamp (by omega)
  refine Cr_of [some (.ref (γ.1 + 86)), none] (by decide +kernel) (Nat.le_of_ble_eq_true rfl) rfl ?_
  intro p e s m args below meth c X
  refine v_aload_n X rfl dX7_second_0 ?_
  refine v_getf X fd_X7_7 (rd_Model γ _) rfl dX7_second_1 ?_
  refine v_sipush' X ks_220 dX7_second_4 ?_
  refine v_dup2 X rfl rfl dX7_second_7 ?_
  refine v_iald' X (v := (M (220))) (rd_M γ _) (220) rfl (by omega) (by decide) (vw_at (by omega)) dX7_second_8 ?_
  refine v_aload_n X rfl dX7_second_9 ?_
  refine v_getf X fd_X7_7 (rd_Model γ _) rfl dX7_second_10 ?_
  refine v_sipush' X ks_221 dX7_second_13 ?_
  refine v_iald' X (v := (M (221))) (rd_M γ _) (221) rfl (by omega) (by decide) (vw_at (by omega)) dX7_second_16 ?_
  refine v_aload_n X rfl dX7_second_17 ?_
  refine v_getf X fd_X7_7 (rd_Model γ _) rfl dX7_second_18 ?_
  refine v_sipush' X ks_220 dX7_second_21 ?_
  refine v_iald' X (v := (M (220))) (rd_M γ _) (220) rfl (by omega) (by decide) (vw_at (by omega)) dX7_second_24 ?_
  have jn56 : ∀ (u : Int32), u = (if M 221 ≤ M 220 then (if M 220 ≤ M 221 then nI 0 else (-1)) else nI 1) → V p l e { frames := 4, cells := 0, slots := 0, locals := 87 } s m args below meth c γ (MQ below (Qof γ (Det none (rdw γ (wset w 10 (q_second M))))) args s 0 0 (Ag γ)) (rdw γ (wset w 10 M)) 0 0 56 [some (.ref (γ.1 + 86)), none] [.int u, .int (M 220), .int (nI 220), .ref (γ.1 + 87)] := by
    intro u hu
    subst hu
    refine v_iadd X dX7_second_56 ?_
    refine v_iast X (rd_M γ _) (220) rfl (by omega) (by decide) dX7_second_57 ?_
    refine v_eqh (uq_M γ _ (by omega) _) ?_
    simp (disch := decide) only [wset_swap, wset_wset, ws_same, ws_ne, wh_ws]
    show V p l e _ s m args below meth c γ _ (rdw γ (wset w 10 (q_speed M))) _ _ _ _ _
    refine v_aload_n X rfl dX7_second_58 ?_
    refine v_getf X fd_X7_7 (rd_Model γ _) rfl dX7_second_59 ?_
    refine v_sipush' X ks_219 dX7_second_62 ?_
    refine v_bipush' X kb_99 dX7_second_65 ?_
    refine v_aload_n X rfl dX7_second_67 ?_
    refine v_getf X fd_X7_7 (rd_Model γ _) rfl dX7_second_68 ?_
    refine v_sipush' X ks_219 dX7_second_71 ?_
    refine v_iald' X (v := ((q_speed M) (219))) (rd_M γ _) (219) rfl (by omega) (by decide) (vw_at (by omega)) dX7_second_74 ?_
    refine v_aload_n X rfl dX7_second_75 ?_
    refine v_getf X fd_X7_7 (rd_Model γ _) rfl dX7_second_76 ?_
    refine v_sipush' X ks_220 dX7_second_79 ?_
    refine v_iald' X (v := ((q_speed M) (220))) (rd_M γ _) (220) rfl (by omega) (by decide) (vw_at (by omega)) dX7_second_82 ?_
    refine v_iadd X dX7_second_83 ?_
    refine v_callS X ms_X7_102 (c_X7_least l γ _ _ _) rfl ⟨Nat.le_of_ble_eq_true rfl, Nat.le_of_ble_eq_true rfl, Nat.le_of_ble_eq_true rfl, Nat.le_of_ble_eq_true rfl⟩ (Nat.le_of_ble_eq_true rfl) rfl dX7_second_84 rfl (det_i ?_)
    refine v_iast X (rd_M γ _) (219) rfl (by omega) (by decide) dX7_second_87 ?_
    refine v_eqh (uq_M γ _ (by omega) _) ?_
    simp (disch := decide) only [wset_swap, wset_wset, ws_same, ws_ne, wh_ws]
    show V p l e _ s m args below meth c γ _ (rdw γ (wset w 10 (q_place (q_speed M)))) _ _ _ _ _
    refine v_aload_n X rfl dX7_second_88 ?_
    refine v_callV (ci := 8) X mv_X7_108 (c_X7_ordersDue l γ _ _ cn q ((q_pp_off M (by decide) (by decide)).trans hcn) h1 h6 ((q_pp_off M (by decide) (by decide)).trans hq) h10 (fun t ht => OV_congr (by omega) (fun z h5 h6 => q_pp_off M (by omega) (by omega)) (ho t ht))) rfl rfl (rd_Model γ _) rfl ⟨Nat.le_of_ble_eq_true rfl, Nat.le_of_ble_eq_true rfl, Nat.le_of_ble_eq_true rfl, Nat.le_of_ble_eq_true rfl⟩ (Nat.le_of_ble_eq_true rfl) rfl dX7_second_89 rfl (det_v ?_)
    rw [← q_pre_eq hcn hq h6 h10]
    refine v_iconst' X kc_0 dX7_second_92 ?_
    refine v_istore_n X (Nat.le_of_ble_eq_true rfl) rfl dX7_second_93 ?_
    have lp94 : ∀ (na : Nat) (k : Nat), k ≤ 3 * cn ∧ 3 * cn + 1 ≤ k + na → V p l e { frames := 4, cells := 0, slots := 0, locals := 87 } s m args below meth c γ (MQ below (Qof γ (Det none (rdw γ (wset w 10 (q_second M))))) args s 0 0 (Ag γ)) (rdw γ (wset w 10 (q_fallsN (q_pre M) k))) 0 0 94 [some (.ref (γ.1 + 86)), some (.int (nI k))] [] := by
      intro na
      induction na with
      | zero =>
        intro k hbna
        exact absurd hbna (by omega)
      | succ na ihna =>
        intro k hbna
        refine v_iload_n X rfl dX7_second_94 ?_
        refine v_iconst' X kc_3 dX7_second_95 ?_
        refine v_aload_n X rfl dX7_second_96 ?_
        refine v_getf X fd_X7_7 (rd_Model γ _) rfl dX7_second_97 ?_
        refine v_sipush' X ks_218 dX7_second_100 ?_
        refine v_iald' X (v := nI cn) (rd_M γ _) (218) rfl (by omega) (by decide) ((vw_at (by omega)).trans ((q_fallsN_off (j := 218) _ (by omega) (by omega) (by omega)).trans hp18)) dX7_second_103 ?_
        refine v_imul' X (pk_mul _ _) dX7_second_104 ?_
        refine v_icmp_ge_n (tgt := 124) X dX7_second_105 (by decide) (by omega) (by omega) (fun c_1 => ?_) (fun c_1 => ?_)
        · have hk : k = 3 * cn := by omega
          subst hk
          refine v_iconst' X kc_0 dX7_second_124 ?_
          refine v_istore_n X (Nat.le_of_ble_eq_true rfl) rfl dX7_second_125 ?_
          have lp126 : ∀ (nb : Nat) (k : Nat), k ≤ 117 ∧ 117 + 1 ≤ k + nb → V p l e { frames := 4, cells := 0, slots := 0, locals := 87 } s m args below meth c γ (MQ below (Qof γ (Det none (rdw γ (wset w 10 (q_second M))))) args s 0 0 (Ag γ)) (rdw γ (wset w 10 (q_slidesN (q_fallsN (q_pre M) (3 * cn)) k))) 0 0 126 [some (.ref (γ.1 + 86)), some (.int (nI k))] [] := by
            intro nb
            induction nb with
            | zero =>
              intro k hbnb
              exact absurd hbnb (by omega)
            | succ nb ihnb =>
              intro k hbnb
              refine v_iload_n X rfl dX7_second_126 ?_
              refine v_bipush' X kb_117 dX7_second_127 ?_
              refine v_icmp_ge_n (tgt := 148) X dX7_second_129 (by decide) (by omega) (by omega) (fun c_2 => ?_) (fun c_2 => ?_)
              · have hk : k = 117 := by omega
                subst hk
                refine v_iconst' X kc_0 dX7_second_148 ?_
                refine v_istore_n X (Nat.le_of_ble_eq_true rfl) rfl dX7_second_149 ?_
                have lp150 : ∀ (nc : Nat) (k : Nat), k ≤ 40 ∧ 40 + 1 ≤ k + nc → V p l e { frames := 4, cells := 0, slots := 0, locals := 87 } s m args below meth c γ (MQ below (Qof γ (Det none (rdw γ (wset w 10 (q_second M))))) args s 0 0 (Ag γ)) (rdw γ (wset w 10 (q_spillsN (q_slidesN (q_fallsN (q_pre M) (3 * cn)) 117) k))) 0 0 150 [some (.ref (γ.1 + 86)), some (.int (nI k))] [] := by
                  intro nc
                  induction nc with
                  | zero =>
                    intro k hbnc
                    exact absurd hbnc (by omega)
                  | succ nc ihnc =>
                    intro k hbnc
                    refine v_iload_n X rfl dX7_second_150 ?_
                    refine v_bipush' X kb_40 dX7_second_151 ?_
                    refine v_icmp_ge_n (tgt := 174) X dX7_second_153 (by decide) (by omega) (by omega) (fun c_3 => ?_) (fun c_3 => ?_)
                    · have hk : k = 40 := by omega
                      subst hk
                      refine v_iconst' X kc_0 dX7_second_174 ?_
                      refine v_istore_n X (Nat.le_of_ble_eq_true rfl) rfl dX7_second_175 ?_
                      have lp176 : ∀ (nd : Nat) (k : Nat), k ≤ 3 * cn ∧ 3 * cn + 1 ≤ k + nd → V p l e { frames := 4, cells := 0, slots := 0, locals := 87 } s m args below meth c γ (MQ below (Qof γ (Det none (rdw γ (wset w 10 (q_second M))))) args s 0 0 (Ag γ)) (rdw γ (wset w 10 (q_closesN (q_spillsN (q_slidesN (q_fallsN (q_pre M) (3 * cn)) 117) 40) k))) 0 0 176 [some (.ref (γ.1 + 86)), some (.int (nI k))] [] := by
                        intro nd
                        induction nd with
                        | zero =>
                          intro k hbnd
                          exact absurd hbnd (by omega)
                        | succ nd ihnd =>
                          intro k hbnd
                          refine v_iload_n X rfl dX7_second_176 ?_
                          refine v_iconst' X kc_3 dX7_second_177 ?_
                          refine v_aload_n X rfl dX7_second_178 ?_
                          refine v_getf X fd_X7_7 (rd_Model γ _) rfl dX7_second_179 ?_
                          refine v_sipush' X ks_218 dX7_second_182 ?_
                          refine v_iald' X (v := nI cn) (rd_M γ _) (218) rfl (by omega) (by decide) ((vw_at (by omega)).trans ((q_closesN_off (j := 218) _ (by omega) (by omega) (by omega)).trans ((q_spillsN_off (j := 218) _ (by omega) (by omega) (by omega)).trans ((q_slidesN_off (j := 218) _ (by omega) (by omega)).trans ((q_fallsN_off (j := 218) _ (by omega) (by omega) (by omega)).trans hp18))))) dX7_second_185 ?_
                          refine v_imul' X (pk_mul _ _) dX7_second_186 ?_
                          refine v_icmp_ge_n (tgt := 206) X dX7_second_187 (by decide) (by omega) (by omega) (fun c_4 => ?_) (fun c_4 => ?_)
                          · have hk : k = 3 * cn := by omega
                            subst hk
                            refine v_aload_n X rfl dX7_second_206 ?_
                            refine v_getf X fd_X7_7 (rd_Model γ _) rfl dX7_second_207 ?_
                            refine v_sipush' X ks_222 dX7_second_210 ?_
                            refine v_dup2 X rfl rfl dX7_second_213 ?_
                            refine v_iald' X (v := ((q_closesN (q_spillsN (q_slidesN (q_fallsN (q_pre M) (3 * cn)) 117) 40) (3 * cn)) (222))) (rd_M γ _) (222) rfl (by omega) (by decide) (vw_at (by omega)) dX7_second_214 ?_
                            refine v_iconst' X kc_1 dX7_second_215 ?_
                            refine v_iadd X dX7_second_216 ?_
                            refine v_iast X (rd_M γ _) (222) rfl (by omega) (by decide) dX7_second_217 ?_
                            refine v_eqh (uq_M γ _ (by omega) _) ?_
                            simp (disch := decide) only [wset_swap, wset_wset, ws_same, ws_ne, wh_ws]
                            exact v_vret X rfl (Nat.le_of_ble_eq_true rfl) (Nat.le_of_ble_eq_true rfl) dX7_second_218 ⟨rfl, congrArg (fun z => rdw γ (wset w 10 z)) (by simp only [q_second, e18])⟩
                          · refine v_aload_n X rfl dX7_second_190 ?_
                            refine v_iload_n X rfl dX7_second_191 ?_
                            refine v_iconst' X kc_3 dX7_second_192 ?_
                            refine v_idiv' X (by omega) (by decide) (by decide) dX7_second_193 ?_
                            refine v_iload_n X rfl dX7_second_194 ?_
                            refine v_iconst' X kc_3 dX7_second_195 ?_
                            refine v_irem' X (by omega) (by decide) (by decide) dX7_second_196 ?_
                            refine v_callV (ci := 8) X mv_X7_121 (c_X7_closes l γ _ _ ((k / 3)) ((k % 3)) (by omega) (by omega)) rfl rfl (rd_Model γ _) rfl ⟨Nat.le_of_ble_eq_true rfl, Nat.le_of_ble_eq_true rfl, Nat.le_of_ble_eq_true rfl, Nat.le_of_ble_eq_true rfl⟩ (Nat.le_of_ble_eq_true rfl) rfl dX7_second_197 rfl (det_v ?_)
                            refine v_iinc' X rfl rfl (nI_inc _) dX7_second_200 ?_
                            refine v_goto (tgt := 176) X dX7_second_203 (by decide) ?_
                            exact (ihnd (k + 1) ⟨by omega, by omega⟩)
                      exact (lp176 (3 * cn + 1) 0 ⟨by omega, by omega⟩)
                    · refine v_aload_n X rfl dX7_second_156 ?_
                      refine v_iload_n X rfl dX7_second_157 ?_
                      refine v_iconst' X kc_0 dX7_second_158 ?_
                      refine v_callV (ci := 8) X mv_X7_118 (c_X7_spills l γ _ _ k 0 (by omega) (by omega)) rfl rfl (rd_Model γ _) rfl ⟨Nat.le_of_ble_eq_true rfl, Nat.le_of_ble_eq_true rfl, Nat.le_of_ble_eq_true rfl, Nat.le_of_ble_eq_true rfl⟩ (Nat.le_of_ble_eq_true rfl) rfl dX7_second_159 rfl (det_v ?_)
                      refine v_aload_n X rfl dX7_second_162 ?_
                      refine v_iload_n X rfl dX7_second_163 ?_
                      refine v_iconst' X kc_2 dX7_second_164 ?_
                      refine v_callV (ci := 8) X mv_X7_118 (c_X7_spills l γ _ _ k 2 (by omega) (by omega)) rfl rfl (rd_Model γ _) rfl ⟨Nat.le_of_ble_eq_true rfl, Nat.le_of_ble_eq_true rfl, Nat.le_of_ble_eq_true rfl, Nat.le_of_ble_eq_true rfl⟩ (Nat.le_of_ble_eq_true rfl) rfl dX7_second_165 rfl (det_v ?_)
                      refine v_iinc' X rfl rfl (nI_inc _) dX7_second_168 ?_
                      refine v_goto (tgt := 150) X dX7_second_171 (by decide) ?_
                      exact (ihnc (k + 1) ⟨by omega, by omega⟩)
                exact (lp150 (40 + 1) 0 ⟨by omega, by omega⟩)
              · refine v_aload_n X rfl dX7_second_132 ?_
                refine v_iload_n X rfl dX7_second_133 ?_
                refine v_iconst' X kc_3 dX7_second_134 ?_
                refine v_idiv' X (by omega) (by decide) (by decide) dX7_second_135 ?_
                refine v_iload_n X rfl dX7_second_136 ?_
                refine v_iconst' X kc_3 dX7_second_137 ?_
                refine v_irem' X (by omega) (by decide) (by decide) dX7_second_138 ?_
                refine v_callV (ci := 8) X mv_X7_115 (c_X7_slides l γ _ _ ((k / 3)) ((k % 3)) (by omega) (by omega)) rfl rfl (rd_Model γ _) rfl ⟨Nat.le_of_ble_eq_true rfl, Nat.le_of_ble_eq_true rfl, Nat.le_of_ble_eq_true rfl, Nat.le_of_ble_eq_true rfl⟩ (Nat.le_of_ble_eq_true rfl) rfl dX7_second_139 rfl (det_v ?_)
                refine v_iinc' X rfl rfl (nI_inc _) dX7_second_142 ?_
                refine v_goto (tgt := 126) X dX7_second_145 (by decide) ?_
                exact (ihnb (k + 1) ⟨by omega, by omega⟩)
          exact (lp126 (117 + 1) 0 ⟨by omega, by omega⟩)
        · refine v_aload_n X rfl dX7_second_108 ?_
          refine v_iload_n X rfl dX7_second_109 ?_
          refine v_iconst' X kc_3 dX7_second_110 ?_
          refine v_idiv' X (by omega) (by decide) (by decide) dX7_second_111 ?_
          refine v_iload_n X rfl dX7_second_112 ?_
          refine v_iconst' X kc_3 dX7_second_113 ?_
          refine v_irem' X (by omega) (by decide) (by decide) dX7_second_114 ?_
          refine v_callV (ci := 8) X mv_X7_111 (c_X7_falls l γ _ _ ((k / 3)) ((k % 3)) (by omega) (by omega)) rfl rfl (rd_Model γ _) rfl ⟨Nat.le_of_ble_eq_true rfl, Nat.le_of_ble_eq_true rfl, Nat.le_of_ble_eq_true rfl, Nat.le_of_ble_eq_true rfl⟩ (Nat.le_of_ble_eq_true rfl) rfl dX7_second_115 rfl (det_v ?_)
          refine v_iinc' X rfl rfl (nI_inc _) dX7_second_118 ?_
          refine v_goto (tgt := 94) X dX7_second_121 (by decide) ?_
          exact (ihna (k + 1) ⟨by omega, by omega⟩)
    exact (lp94 (3 * cn + 1) 0 ⟨by omega, by omega⟩)
  refine v_icmp_le (tgt := 32) X dX7_second_25 (by decide) (fun c_1 => ?_) (fun c_1 => ?_)
  · refine v_aload_n X rfl dX7_second_32 ?_
    refine v_getf X fd_X7_7 (rd_Model γ _) rfl dX7_second_33 ?_
    refine v_sipush' X ks_221 dX7_second_36 ?_
    refine v_iald' X (v := (M (221))) (rd_M γ _) (221) rfl (by omega) (by decide) (vw_at (by omega)) dX7_second_39 ?_
    refine v_aload_n X rfl dX7_second_40 ?_
    refine v_getf X fd_X7_7 (rd_Model γ _) rfl dX7_second_41 ?_
    refine v_sipush' X ks_220 dX7_second_44 ?_
    refine v_iald' X (v := (M (220))) (rd_M γ _) (220) rfl (by omega) (by decide) (vw_at (by omega)) dX7_second_47 ?_
    refine v_icmp_ge (tgt := 55) X dX7_second_48 (by decide) (fun c_2 => ?_) (fun c_2 => ?_)
    · refine v_iconst' X kc_0 dX7_second_55 ?_
      exact v_Ln (jn56 _ (by first | rw [if_neg c_1] | rw [if_pos c_1, if_pos c_2] | rw [if_pos c_1, if_neg c_2])) ⟨Or.inr rfl, Or.inl rfl, trivial⟩
    · refine v_iconst' X kc_m1 dX7_second_51 ?_
      refine v_goto (tgt := 56) X dX7_second_52 (by decide) ?_
      exact v_Ln (jn56 _ (by first | rw [if_neg c_1] | rw [if_pos c_1, if_pos c_2] | rw [if_pos c_1, if_neg c_2])) ⟨Or.inr rfl, Or.inl rfl, trivial⟩
  · refine v_iconst' X kc_1 dX7_second_28 ?_
    refine v_goto (tgt := 56) X dX7_second_29 (by decide) ?_
    exact v_Ln (jn56 _ (by first | rw [if_neg c_1] | rw [if_pos c_1, if_pos c_2] | rw [if_pos c_1, if_neg c_2])) ⟨Or.inr rfl, Or.inl rfl, trivial⟩
