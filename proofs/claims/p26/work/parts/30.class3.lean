theorem le_0 {x : Int32} (h : ¬ x < 0) (h2 : x ≤ 0) : x = 0 := by
  rw [i_lt, i_0] at h; rw [i_le, i_0] at h2; rw [i_eq, i_0]; omega
theorem cn_lt {cn : Nat} {x : Int32} (h1 : 1 ≤ cn) (h6 : cn ≤ 6) : nI cn ≤ x ↔ nI (cn - 1) < x := by
  obtain ⟨z, rfl⟩ : ∃ z, cn = z + 1 := ⟨cn - 1, by omega⟩
  exact ge_gt (by omega)
theorem cn_6 {cn : Nat} {x : Int32} (h6 : cn ≤ 6) (h : ¬ nI cn ≤ x) : ¬ nI 6 ≤ x := by
  rw [i_le, i_nI (by omega)] at *; omega
set_option maxHeartbeats 4000000 in
set_option maxRecDepth 100000 in
theorem c_X5_hasWagon (l : Launch) (γ : Gm) (w : Wd) (g : Nat → Int32) (k : Nat) (hk : k < 8) (cn : Nat) (hc : g 218 = nI cn) (h6 : cn ≤ 6) (h1 : 1 ≤ cn) (x : Int32) : Cr l γ yX5_hasWagon cX5_hasWagon 2 (some .boolean) 0 0 0 0 [.ref (γ.1 + so k + 4), .int x] (rdw γ (wset w k g)) (Det (some (.int (bi (¬ x < nI 0 ∧ ¬ nI (cn - 1) < x)))) (rdw γ (wset w k (g)))) := by
  refine Cr_of [some (.ref (γ.1 + so k + 4)), some (.int x)] (by decide +kernel) (Nat.le_of_ble_eq_true rfl) rfl ?_
  intro p e s m args below meth c X
  refine v_q0 (fun Q0 hQ0 => ?_)
  refine v_iload_n X rfl dX5_hasWagon_0 ?_
  refine v_if_lt (tgt := 22) X dX5_hasWagon_1 (by decide) (fun q1 => ?_) (fun q1 => ?_)
  · refine v_iconst' X kc_0 dX5_hasWagon_22 ?_
    subst hQ0
    exact v_zret X rfl rfl (Nat.le_of_ble_eq_true rfl) (Nat.le_of_ble_eq_true rfl) dX5_hasWagon_23 ⟨so_some (by first | exact bi_t ⟨q1, fun z => q2 ((cn_lt h1 h6).mpr z)⟩ | exact bi_f (fun z => z.1 q1) | exact bi_f (fun z => z.2 ((cn_lt h1 h6).mp q2))), rfl⟩
  · refine v_iload_n X rfl dX5_hasWagon_4 ?_
    refine v_aload_n X rfl dX5_hasWagon_5 ?_
    refine v_getf X (v := .int (g 218)) fd_X5_9 (rd_Train γ _ _ hk) rfl dX5_hasWagon_6 ?_
    rw [hc]
    refine v_icmp_ge (tgt := 22) X dX5_hasWagon_9 (by decide) (fun q2 => ?_) (fun q2 => ?_)
    · refine v_iconst' X kc_0 dX5_hasWagon_22 ?_
      subst hQ0
      exact v_zret X rfl rfl (Nat.le_of_ble_eq_true rfl) (Nat.le_of_ble_eq_true rfl) dX5_hasWagon_23 ⟨so_some (by first | exact bi_t ⟨q1, fun z => q2 ((cn_lt h1 h6).mpr z)⟩ | exact bi_f (fun z => z.1 q1) | exact bi_f (fun z => z.2 ((cn_lt h1 h6).mp q2))), rfl⟩
    · refine v_iload_n X rfl dX5_hasWagon_12 ?_
      refine v_bipush' X kb_6 dX5_hasWagon_13 ?_
      refine v_icmp_ge_f (tgt := 22) X dX5_hasWagon_15 (by decide) (cn_6 h6 q2) ?_
      refine v_iconst' X kc_1 dX5_hasWagon_18 ?_
      refine v_goto (tgt := 23) X dX5_hasWagon_19 (by decide) ?_
      subst hQ0
      exact v_zret X rfl rfl (Nat.le_of_ble_eq_true rfl) (Nat.le_of_ble_eq_true rfl) dX5_hasWagon_23 ⟨so_some (by first | exact bi_t ⟨q1, fun z => q2 ((cn_lt h1 h6).mpr z)⟩ | exact bi_f (fun z => z.1 q1) | exact bi_f (fun z => z.2 ((cn_lt h1 h6).mp q2))), rfl⟩
set_option maxHeartbeats 4000000 in
set_option maxRecDepth 100000 in
theorem c_X5_hasDoor (l : Launch) (γ : Gm) (w : Wd) (g : Nat → Int32) (k : Nat) (hk : k < 8) (cn : Nat) (hc : g 218 = nI cn) (h6 : cn ≤ 6) (h1 : 1 ≤ cn) (x y : Int32) : Cr l γ yX5_hasDoor cX5_hasDoor 3 (some .boolean) 0 0 0 0 [.ref (γ.1 + so k + 4), .int x, .int y] (rdw γ (wset w k g)) (Det (some (.int (bi ((¬ x < nI 0 ∧ ¬ nI (cn - 1) < x) ∧ (¬ y < nI 0 ∧ ¬ nI 2 < y))))) (rdw γ (wset w k (g)))) := by
  refine Cr_of [some (.ref (γ.1 + so k + 4)), some (.int x), some (.int y)] (by decide +kernel) (Nat.le_of_ble_eq_true rfl) rfl ?_
  intro p e s m args below meth c X
  refine v_q0 (fun Q0 hQ0 => ?_)
  refine v_iload_n X rfl dX5_hasDoor_0 ?_
  refine v_if_lt (tgt := 31) X dX5_hasDoor_1 (by decide) (fun q1 => ?_) (fun q1 => ?_)
  · refine v_iconst' X kc_0 dX5_hasDoor_31 ?_
    subst hQ0
    exact v_zret X rfl rfl (Nat.le_of_ble_eq_true rfl) (Nat.le_of_ble_eq_true rfl) dX5_hasDoor_32 ⟨so_some (by first | exact bi_t ⟨⟨q1, fun z => q2 ((cn_lt h1 h6).mpr z)⟩, q3, fun z => q4 ((ge_gt (by decide)).mpr z)⟩ | exact bi_f (fun z => z.1.1 q1) | exact bi_f (fun z => z.1.2 ((cn_lt h1 h6).mp q2)) | exact bi_f (fun z => z.2.1 q3) | exact bi_f (fun z => z.2.2 ((ge_gt (by decide)).mp q4))), rfl⟩
  · refine v_iload_n X rfl dX5_hasDoor_4 ?_
    refine v_aload_n X rfl dX5_hasDoor_5 ?_
    refine v_getf X (v := .int (g 218)) fd_X5_9 (rd_Train γ _ _ hk) rfl dX5_hasDoor_6 ?_
    rw [hc]
    refine v_icmp_ge (tgt := 31) X dX5_hasDoor_9 (by decide) (fun q2 => ?_) (fun q2 => ?_)
    · refine v_iconst' X kc_0 dX5_hasDoor_31 ?_
      subst hQ0
      exact v_zret X rfl rfl (Nat.le_of_ble_eq_true rfl) (Nat.le_of_ble_eq_true rfl) dX5_hasDoor_32 ⟨so_some (by first | exact bi_t ⟨⟨q1, fun z => q2 ((cn_lt h1 h6).mpr z)⟩, q3, fun z => q4 ((ge_gt (by decide)).mpr z)⟩ | exact bi_f (fun z => z.1.1 q1) | exact bi_f (fun z => z.1.2 ((cn_lt h1 h6).mp q2)) | exact bi_f (fun z => z.2.1 q3) | exact bi_f (fun z => z.2.2 ((ge_gt (by decide)).mp q4))), rfl⟩
    · refine v_iload_n X rfl dX5_hasDoor_12 ?_
      refine v_bipush' X kb_6 dX5_hasDoor_13 ?_
      refine v_icmp_ge_f (tgt := 31) X dX5_hasDoor_15 (by decide) (cn_6 h6 q2) ?_
      refine v_iload_n X rfl dX5_hasDoor_18 ?_
      refine v_if_lt (tgt := 31) X dX5_hasDoor_19 (by decide) (fun q3 => ?_) (fun q3 => ?_)
      · refine v_iconst' X kc_0 dX5_hasDoor_31 ?_
        subst hQ0
        exact v_zret X rfl rfl (Nat.le_of_ble_eq_true rfl) (Nat.le_of_ble_eq_true rfl) dX5_hasDoor_32 ⟨so_some (by first | exact bi_t ⟨⟨q1, fun z => q2 ((cn_lt h1 h6).mpr z)⟩, q3, fun z => q4 ((ge_gt (by decide)).mpr z)⟩ | exact bi_f (fun z => z.1.1 q1) | exact bi_f (fun z => z.1.2 ((cn_lt h1 h6).mp q2)) | exact bi_f (fun z => z.2.1 q3) | exact bi_f (fun z => z.2.2 ((ge_gt (by decide)).mp q4))), rfl⟩
      · refine v_iload_n X rfl dX5_hasDoor_22 ?_
        refine v_iconst' X kc_3 dX5_hasDoor_23 ?_
        refine v_icmp_ge (tgt := 31) X dX5_hasDoor_24 (by decide) (fun q4 => ?_) (fun q4 => ?_)
        · refine v_iconst' X kc_0 dX5_hasDoor_31 ?_
          subst hQ0
          exact v_zret X rfl rfl (Nat.le_of_ble_eq_true rfl) (Nat.le_of_ble_eq_true rfl) dX5_hasDoor_32 ⟨so_some (by first | exact bi_t ⟨⟨q1, fun z => q2 ((cn_lt h1 h6).mpr z)⟩, q3, fun z => q4 ((ge_gt (by decide)).mpr z)⟩ | exact bi_f (fun z => z.1.1 q1) | exact bi_f (fun z => z.1.2 ((cn_lt h1 h6).mp q2)) | exact bi_f (fun z => z.2.1 q3) | exact bi_f (fun z => z.2.2 ((ge_gt (by decide)).mp q4))), rfl⟩
        · refine v_iconst' X kc_1 dX5_hasDoor_27 ?_
          refine v_goto (tgt := 32) X dX5_hasDoor_28 (by decide) ?_
          subst hQ0
          exact v_zret X rfl rfl (Nat.le_of_ble_eq_true rfl) (Nat.le_of_ble_eq_true rfl) dX5_hasDoor_32 ⟨so_some (by first | exact bi_t ⟨⟨q1, fun z => q2 ((cn_lt h1 h6).mpr z)⟩, q3, fun z => q4 ((ge_gt (by decide)).mpr z)⟩ | exact bi_f (fun z => z.1.1 q1) | exact bi_f (fun z => z.1.2 ((cn_lt h1 h6).mp q2)) | exact bi_f (fun z => z.2.1 q3) | exact bi_f (fun z => z.2.2 ((ge_gt (by decide)).mp q4))), rfl⟩
theorem c_X5_hasDoor_n (l : Launch) (γ : Gm) (w : Wd) (g : Nat → Int32) (k : Nat) (hk : k < 8) (cn : Nat) (hc : g 218 = nI cn) (h6 : cn ≤ 6) (a b : Nat) (ha : a < cn) (hb : b < 3) : Cr l γ yX5_hasDoor cX5_hasDoor 3 (some .boolean) 0 0 0 0 [.ref (γ.1 + so k + 4), .int (nI a), .int (nI b)] (rdw γ (wset w k g)) (Det (some (.int (nI 1))) (rdw γ (wset w k (g)))) := by
  have h9 := c_X5_hasDoor l γ w g k hk cn hc h6 (by omega) (nI a) (nI b)
  rw [← bi_t (c := (¬ nI a < nI 0 ∧ ¬ nI (cn - 1) < nI a) ∧ (¬ nI b < nI 0 ∧ ¬ nI 2 < nI b)) ⟨nI_in0 (by omega) (by omega), nI_in0 (by omega) (by decide)⟩] at h9
  exact h9
set_option maxHeartbeats 4000000 in
set_option maxRecDepth 100000 in
theorem c_X5_levelOf (l : Launch) (γ : Gm) (w : Wd) (g : Nat → Int32) (k : Nat) (hk : k < 8) (cn : Nat) (hc : g 218 = nI cn) (h6 : cn ≤ 6) (a b : Nat) (ha : a < cn) (hb : b < 3) : Cr l γ yX5_levelOf cX5_levelOf 3 (some .int) 1 22 0 0 [.ref (γ.1 + so k + 4), .int (nI a), .int (nI b)] (rdw γ (wset w k g)) (Det (some (.int ((g (120 + 8 * a + (2 + b)))))) (rdw γ (wset w k (g)))) := by
  refine Cr_of [some (.ref (γ.1 + so k + 4)), some (.int (nI a)), some (.int (nI b))] (by decide +kernel) (Nat.le_of_ble_eq_true rfl) rfl ?_
  intro p e s m args below meth c X
  refine v_q0 (fun Q0 hQ0 => ?_)
  refine v_aload_n X rfl dX5_levelOf_0 ?_
  refine v_iload_n X rfl dX5_levelOf_1 ?_
  refine v_iload_n X rfl dX5_levelOf_2 ?_
  refine v_callV (ci := 5) X mv_X5_47 (c_X5_hasDoor_n l γ w g k hk cn hc h6 a b ha hb) rfl rfl (rd_Train γ _ _ hk) rfl ⟨Nat.le_of_ble_eq_true rfl, Nat.le_of_ble_eq_true rfl, Nat.le_of_ble_eq_true rfl, Nat.le_of_ble_eq_true rfl⟩ (Nat.le_of_ble_eq_true rfl) rfl dX5_levelOf_3 rfl (det_i ?_)
  refine v_if_eq_f (tgt := 22) X dX5_levelOf_6 (by decide) (by decide) ?_
  refine v_aload_n X rfl dX5_levelOf_9 ?_
  refine v_getf X fd_X5_31 (rd_Train γ _ _ hk) rfl dX5_levelOf_10 ?_
  refine v_iconst' X kc_3 dX5_levelOf_13 ?_
  refine v_iload_n X rfl dX5_levelOf_14 ?_
  refine v_imul' X (pk_mul _ _) dX5_levelOf_15 ?_
  refine v_iload_n X rfl dX5_levelOf_16 ?_
  refine v_iadd' X (nI_add _ _) dX5_levelOf_17 ?_
  refine v_iald' X (v := (g (f_lev (((3 * a) + b))))) (rd_Level γ _ _ hk) (((3 * a) + b)) rfl (by omega) (by decide) (vw_at (by omega)) dX5_levelOf_18 ?_
  rw [f_levA hb]
  refine v_goto (tgt := 23) X dX5_levelOf_19 (by decide) ?_
  subst hQ0
  exact v_iret X rfl (Nat.le_of_ble_eq_true rfl) (Nat.le_of_ble_eq_true rfl) dX5_levelOf_23 ⟨rfl, rfl⟩
set_option maxHeartbeats 4000000 in
set_option maxRecDepth 100000 in
theorem c_X5_restOf (l : Launch) (γ : Gm) (w : Wd) (g : Nat → Int32) (k : Nat) (hk : k < 8) (cn : Nat) (hc : g 218 = nI cn) (h6 : cn ≤ 6) (a b : Nat) (ha : a < cn) (hb : b < 3) : Cr l γ yX5_restOf cX5_restOf 3 (some .int) 1 22 0 0 [.ref (γ.1 + so k + 4), .int (nI a), .int (nI b)] (rdw γ (wset w k g)) (Det (some (.int ((g (120 + 8 * a + (5 + b)))))) (rdw γ (wset w k (g)))) := by
  refine Cr_of [some (.ref (γ.1 + so k + 4)), some (.int (nI a)), some (.int (nI b))] (by decide +kernel) (Nat.le_of_ble_eq_true rfl) rfl ?_
  intro p e s m args below meth c X
  refine v_q0 (fun Q0 hQ0 => ?_)
  refine v_aload_n X rfl dX5_restOf_0 ?_
  refine v_iload_n X rfl dX5_restOf_1 ?_
  refine v_iload_n X rfl dX5_restOf_2 ?_
  refine v_callV (ci := 5) X mv_X5_47 (c_X5_hasDoor_n l γ w g k hk cn hc h6 a b ha hb) rfl rfl (rd_Train γ _ _ hk) rfl ⟨Nat.le_of_ble_eq_true rfl, Nat.le_of_ble_eq_true rfl, Nat.le_of_ble_eq_true rfl, Nat.le_of_ble_eq_true rfl⟩ (Nat.le_of_ble_eq_true rfl) rfl dX5_restOf_3 rfl (det_i ?_)
  refine v_if_eq_f (tgt := 22) X dX5_restOf_6 (by decide) (by decide) ?_
  refine v_aload_n X rfl dX5_restOf_9 ?_
  refine v_getf X fd_X5_34 (rd_Train γ _ _ hk) rfl dX5_restOf_10 ?_
  refine v_iconst' X kc_3 dX5_restOf_13 ?_
  refine v_iload_n X rfl dX5_restOf_14 ?_
  refine v_imul' X (pk_mul _ _) dX5_restOf_15 ?_
  refine v_iload_n X rfl dX5_restOf_16 ?_
  refine v_iadd' X (nI_add _ _) dX5_restOf_17 ?_
  refine v_iald' X (v := (g (f_rest (((3 * a) + b))))) (rd_Rest γ _ _ hk) (((3 * a) + b)) rfl (by omega) (by decide) (vw_at (by omega)) dX5_restOf_18 ?_
  rw [f_restA hb]
  refine v_goto (tgt := 25) X dX5_restOf_19 (by decide) ?_
  subst hQ0
  exact v_iret X rfl (Nat.le_of_ble_eq_true rfl) (Nat.le_of_ble_eq_true rfl) dX5_restOf_25 ⟨rfl, rfl⟩
set_option maxHeartbeats 4000000 in
set_option maxRecDepth 100000 in
theorem c_X5_cellBelow (l : Launch) (γ : Gm) (w : Wd) (g : Nat → Int32) (k : Nat) (hk : k < 8) (a : Nat) (ha : a < 6) : Cr l γ yX5_cellBelow cX5_cellBelow 2 (some .int) 0 0 0 0 [.ref (γ.1 + so k + 4), .int (nI a)] (rdw γ (wset w k g)) (Det (some (.int (g 219 - nI (4 * a)))) (rdw γ (wset w k (g)))) := by
  refine Cr_of [some (.ref (γ.1 + so k + 4)), some (.int (nI a))] (by decide +kernel) (Nat.le_of_ble_eq_true rfl) rfl ?_
  intro p e s m args below meth c X
  refine v_q0 (fun Q0 hQ0 => ?_)
  refine v_aload_n X rfl dX5_cellBelow_0 ?_
  refine v_getf X (v := .int (g 219)) fd_X5_15 (rd_Train γ _ _ hk) rfl dX5_cellBelow_1 ?_
  refine v_iconst' X kc_4 dX5_cellBelow_4 ?_
  refine v_iload_n X rfl dX5_cellBelow_5 ?_
  refine v_imul' X (pk_mul _ _) dX5_cellBelow_6 ?_
  refine v_isub X dX5_cellBelow_7 ?_
  subst hQ0
  exact v_iret X rfl (Nat.le_of_ble_eq_true rfl) (Nat.le_of_ble_eq_true rfl) dX5_cellBelow_8 ⟨rfl, rfl⟩
theorem c_loads {M : Nat → Int32} {cn : Nat} (h6 : cn ≤ 6) (hw : NW M cn) : c_sum (vw 6 f_load M) 6 = s_inW M cn := by
  rw [c_load hw 6 (Nat.le_refl 6)]
  rcases Nat.lt_or_ge cn 6 with z | z
  · rw [if_neg (by omega)]
  · rw [if_pos z, show cn = 6 by omega]
set_option maxHeartbeats 4000000 in
set_option maxRecDepth 100000 in
theorem c_X5_units (l : Launch) (γ : Gm) (w : Wd) (g : Nat → Int32) (k : Nat) (hk : k < 8) (cn : Nat) (h6 : cn ≤ 6) (hw : NW g cn) : Cr l γ yX5_units cX5_units 1 (some .int) 1 25 0 0 [.ref (γ.1 + so k + 4)] (rdw γ (wset w k g)) (Det (some (.int (s_inW g cn))) (rdw γ (wset w k (g)))) := by
  refine Cr_of [some (.ref (γ.1 + so k + 4))] (by decide +kernel) (Nat.le_of_ble_eq_true rfl) rfl ?_
  intro p e s m args below meth c X
  refine v_q0 (fun Q0 hQ0 => ?_)
  refine v_aload_n X rfl dX5_units_0 ?_
  refine v_getf X fd_X5_24 (rd_Train γ _ _ hk) rfl dX5_units_1 ?_
  refine v_callSN X msn_X5_51 (c_X6_sum l γ _ _ 6 (vw 6 f_load g) (by decide) (rd_Load γ w g hk)) rfl ⟨Nat.le_of_ble_eq_true rfl, Nat.le_of_ble_eq_true rfl, Nat.le_of_ble_eq_true rfl, Nat.le_of_ble_eq_true rfl⟩ (Nat.le_of_ble_eq_true rfl) rfl dX5_units_4 rfl (det_i ?_)
  subst hQ0
  exact v_iret X rfl (Nat.le_of_ble_eq_true rfl) (Nat.le_of_ble_eq_true rfl) dX5_units_7 ⟨so_some (c_loads h6 hw), rfl⟩
set_option maxHeartbeats 4000000 in
set_option maxRecDepth 100000 in
theorem c_X5_sumOfLevels (l : Launch) (γ : Gm) (w : Wd) (g : Nat → Int32) (k : Nat) (hk : k < 8) (cn : Nat) (hc : g 218 = nI cn) (h6 : cn ≤ 6) (a : Nat) (ha : a < cn) : Cr l γ yX5_sumOfLevels cX5_sumOfLevels 4 (some .int) 2 44 0 0 [.ref (γ.1 + so k + 4), .int (nI a)] (rdw γ (wset w k g)) (Det (some (.int (s_wagN g a 2))) (rdw γ (wset w k (g)))) := by
  refine Cr_of [some (.ref (γ.1 + so k + 4)), some (.int (nI a)), none, none] (by decide +kernel) (Nat.le_of_ble_eq_true rfl) rfl ?_
  intro p e s m args below meth c X
  refine v_q0 (fun Q0 hQ0 => ?_)
  refine v_iconst' X kc_0 dX5_sumOfLevels_0 ?_
  refine v_istore_n X (Nat.le_of_ble_eq_true rfl) rfl dX5_sumOfLevels_1 ?_
  refine v_iconst' X kc_0 dX5_sumOfLevels_2 ?_
  refine v_istore_n X (Nat.le_of_ble_eq_true rfl) rfl dX5_sumOfLevels_3 ?_
  refine v_iload_n X rfl dX5_sumOfLevels_4 ?_
  refine v_iconst' X kc_3 dX5_sumOfLevels_5 ?_
  refine v_icmp_ge_f (tgt := 24) X dX5_sumOfLevels_6 (by decide) (by decide) ?_
  refine v_iload_n X rfl dX5_sumOfLevels_9 ?_
  refine v_aload_n X rfl dX5_sumOfLevels_10 ?_
  refine v_iload_n X rfl dX5_sumOfLevels_11 ?_
  refine v_iload_n X rfl dX5_sumOfLevels_12 ?_
  refine v_callV (ci := 5) X mv_X5_55 (c_X5_levelOf l γ w g k hk cn (by exact hc) h6 a 0 (by omega) (by omega)) rfl rfl (rd_Train γ _ _ hk) rfl ⟨Nat.le_of_ble_eq_true rfl, Nat.le_of_ble_eq_true rfl, Nat.le_of_ble_eq_true rfl, Nat.le_of_ble_eq_true rfl⟩ (Nat.le_of_ble_eq_true rfl) rfl dX5_sumOfLevels_13 rfl (det_i ?_)
  refine v_iadd X dX5_sumOfLevels_16 ?_
  refine v_istore_n X (Nat.le_of_ble_eq_true rfl) rfl dX5_sumOfLevels_17 ?_
  refine v_iinc' X rfl rfl (nI_inc _) dX5_sumOfLevels_18 ?_
  refine v_goto (tgt := 4) X dX5_sumOfLevels_21 (by decide) ?_
  refine v_iload_n X rfl dX5_sumOfLevels_4 ?_
  refine v_iconst' X kc_3 dX5_sumOfLevels_5 ?_
  refine v_icmp_ge_f (tgt := 24) X dX5_sumOfLevels_6 (by decide) (by decide) ?_
  refine v_iload_n X rfl dX5_sumOfLevels_9 ?_
  refine v_aload_n X rfl dX5_sumOfLevels_10 ?_
  refine v_iload_n X rfl dX5_sumOfLevels_11 ?_
  refine v_iload_n X rfl dX5_sumOfLevels_12 ?_
  refine v_callV (ci := 5) X mv_X5_55 (c_X5_levelOf l γ w g k hk cn (by exact hc) h6 a 1 (by omega) (by omega)) rfl rfl (rd_Train γ _ _ hk) rfl ⟨Nat.le_of_ble_eq_true rfl, Nat.le_of_ble_eq_true rfl, Nat.le_of_ble_eq_true rfl, Nat.le_of_ble_eq_true rfl⟩ (Nat.le_of_ble_eq_true rfl) rfl dX5_sumOfLevels_13 rfl (det_i ?_)
  refine v_iadd X dX5_sumOfLevels_16 ?_
  refine v_istore_n X (Nat.le_of_ble_eq_true rfl) rfl dX5_sumOfLevels_17 ?_
  refine v_iinc' X rfl rfl (nI_inc _) dX5_sumOfLevels_18 ?_
  refine v_goto (tgt := 4) X dX5_sumOfLevels_21 (by decide) ?_
  refine v_iload_n X rfl dX5_sumOfLevels_4 ?_
  refine v_iconst' X kc_3 dX5_sumOfLevels_5 ?_
  refine v_icmp_ge_f (tgt := 24) X dX5_sumOfLevels_6 (by decide) (by decide) ?_
  refine v_iload_n X rfl dX5_sumOfLevels_9 ?_
  refine v_aload_n X rfl dX5_sumOfLevels_10 ?_
  refine v_iload_n X rfl dX5_sumOfLevels_11 ?_
  refine v_iload_n X rfl dX5_sumOfLevels_12 ?_
  refine v_callV (ci := 5) X mv_X5_55 (c_X5_levelOf l γ w g k hk cn (by exact hc) h6 a 2 (by omega) (by omega)) rfl rfl (rd_Train γ _ _ hk) rfl ⟨Nat.le_of_ble_eq_true rfl, Nat.le_of_ble_eq_true rfl, Nat.le_of_ble_eq_true rfl, Nat.le_of_ble_eq_true rfl⟩ (Nat.le_of_ble_eq_true rfl) rfl dX5_sumOfLevels_13 rfl (det_i ?_)
  refine v_iadd X dX5_sumOfLevels_16 ?_
  refine v_istore_n X (Nat.le_of_ble_eq_true rfl) rfl dX5_sumOfLevels_17 ?_
  refine v_iinc' X rfl rfl (nI_inc _) dX5_sumOfLevels_18 ?_
  refine v_goto (tgt := 4) X dX5_sumOfLevels_21 (by decide) ?_
  refine v_iload_n X rfl dX5_sumOfLevels_4 ?_
  refine v_iconst' X kc_3 dX5_sumOfLevels_5 ?_
  refine v_icmp_ge_t (tgt := 24) X dX5_sumOfLevels_6 (by decide) (by decide) ?_
  refine v_iload_n X rfl dX5_sumOfLevels_24 ?_
  subst hQ0
  exact v_iret X rfl (Nat.le_of_ble_eq_true rfl) (Nat.le_of_ble_eq_true rfl) dX5_sumOfLevels_25 ⟨so_some (by rw [nI_0, Int32.zero_add]; rfl), rfl⟩
set_option maxHeartbeats 4000000 in
set_option maxRecDepth 100000 in
theorem c_X5_closingDoors (l : Launch) (γ : Gm) (w : Wd) (g : Nat → Int32) (k : Nat) (hk : k < 8) (cn : Nat) (hc : g 218 = nI cn) (h6 : cn ≤ 6) (a : Nat) (ha : a < cn) : Cr l γ yX5_closingDoors cX5_closingDoors 4 (some .int) 2 44 0 0 [.ref (γ.1 + so k + 4), .int (nI a)] (rdw γ (wset w k g)) (Det (some (.int (s_cl3 g a 3))) (rdw γ (wset w k (g)))) := by
  refine Cr_of [some (.ref (γ.1 + so k + 4)), some (.int (nI a)), none, none] (by decide +kernel) (Nat.le_of_ble_eq_true rfl) rfl ?_
  intro p e s m args below meth c X
  refine v_q0 (fun Q0 hQ0 => ?_)
  refine v_iconst' X kc_0 dX5_closingDoors_0 ?_
  refine v_istore_n X (Nat.le_of_ble_eq_true rfl) rfl dX5_closingDoors_1 ?_
  refine v_iconst' X kc_0 dX5_closingDoors_2 ?_
  refine v_istore_n X (Nat.le_of_ble_eq_true rfl) rfl dX5_closingDoors_3 ?_
  have lp4 : ∀ (n : Nat) (j : Nat), j ≤ 3 ∧ 4 ≤ j + n → V p l e { frames := 2, cells := 0, slots := 0, locals := 44 } s m args below meth c γ Q0 (rdw γ (wset w k g)) 0 0 4 [some (.ref (γ.1 + so k + 4)), some (.int (nI a)), some (.int (s_cl3 g a j)), some (.int (nI j))] [] := by
    intro n
    induction n with
    | zero =>
      intro j hbd
      exact absurd hbd (by omega)
    | succ n ih =>
      intro j hbd
      refine v_iload_n X rfl dX5_closingDoors_4 ?_
      refine v_iconst' X kc_3 dX5_closingDoors_5 ?_
      refine v_icmp_ge_n (tgt := 30) X dX5_closingDoors_6 (by decide) (by omega) (by omega) (fun c_7 => ?_) (fun c_7 => ?_)
      · have hj : 3 = j := by omega
        subst hj
        refine v_iload_n X rfl dX5_closingDoors_30 ?_
        subst hQ0
        exact v_iret X rfl (Nat.le_of_ble_eq_true rfl) (Nat.le_of_ble_eq_true rfl) dX5_closingDoors_31 ⟨rfl, rfl⟩
      · refine v_aload_n X rfl dX5_closingDoors_9 ?_
        refine v_iload_n X rfl dX5_closingDoors_10 ?_
        refine v_iload_n X rfl dX5_closingDoors_11 ?_
        refine v_callV (ci := 5) X mv_X5_59 (c_X5_restOf l γ w g k hk cn (by exact hc) h6 a j (by omega) (by omega)) rfl rfl (rd_Train γ _ _ hk) rfl ⟨Nat.le_of_ble_eq_true rfl, Nat.le_of_ble_eq_true rfl, Nat.le_of_ble_eq_true rfl, Nat.le_of_ble_eq_true rfl⟩ (Nat.le_of_ble_eq_true rfl) rfl dX5_closingDoors_12 rfl (det_i ?_)
        refine v_sipush' X ks_m1001 dX5_closingDoors_15 ?_
        refine v_icmp_eq (tgt := 24) X dX5_closingDoors_18 (by decide) (fun q1 => ?_) (fun q1 => ?_)
        · have hs1 := (s_cl3P (M := g) (a := a) (n := j) q1).trans (by rw [nI_0, Int32.add_zero] : _ = s_cl3 g a j)
          refine v_iinc' X rfl rfl (nI_inc _) dX5_closingDoors_24 ?_
          refine v_goto (tgt := 4) X dX5_closingDoors_27 (by decide) ?_
          have hy := ih (j + 1) ⟨by omega, by omega⟩
          rw [hs1] at hy
          exact (hy)
        · have hs1 := s_cl3N (M := g) (a := a) (n := j) q1
          rw [← inc_nI] at hs1
          refine v_iinc X rfl rfl dX5_closingDoors_21 ?_
          refine v_iinc' X rfl rfl (nI_inc _) dX5_closingDoors_24 ?_
          refine v_goto (tgt := 4) X dX5_closingDoors_27 (by decide) ?_
          have hy := ih (j + 1) ⟨by omega, by omega⟩
          rw [hs1] at hy
          exact (hy)
  exact (lp4 4 0 ⟨by omega, by omega⟩)
set_option maxHeartbeats 4000000 in
set_option maxRecDepth 100000 in
theorem c_X5_openDoor (l : Launch) (γ : Gm) (w : Wd) (g : Nat → Int32) (k : Nat) (hk : k < 8) (cn : Nat) (hc : g 218 = nI cn) (h6 : cn ≤ 6) (a b : Nat) (ha : a < cn) (hb : b < 3) (x : Int32) (hx : ¬ x ≤ 0) : Cr l γ yX5_openDoor cX5_openDoor 4 none 1 22 0 0 [.ref (γ.1 + so k + 4), .int (nI a), .int (nI b), .int x] (rdw γ (wset w k g)) (Det none (rdw γ (wset w k (q_moves g a b x)))) := by
  refine Cr_of [some (.ref (γ.1 + so k + 4)), some (.int (nI a)), some (.int (nI b)), some (.int x)] (by decide +kernel) (Nat.le_of_ble_eq_true rfl) rfl ?_
  intro p e s m args below meth c X
  refine v_q0 (fun Q0 hQ0 => ?_)
  refine v_aload_n X rfl dX5_openDoor_0 ?_
  refine v_iload_n X rfl dX5_openDoor_1 ?_
  refine v_iload_n X rfl dX5_openDoor_2 ?_
  refine v_callV (ci := 5) X mv_X5_47 (c_X5_hasDoor_n l γ w g k hk cn hc h6 a b ha hb) rfl rfl (rd_Train γ _ _ hk) rfl ⟨Nat.le_of_ble_eq_true rfl, Nat.le_of_ble_eq_true rfl, Nat.le_of_ble_eq_true rfl, Nat.le_of_ble_eq_true rfl⟩ (Nat.le_of_ble_eq_true rfl) rfl dX5_openDoor_3 rfl (det_i ?_)
  refine v_if_eq_f (tgt := 33) X dX5_openDoor_6 (by decide) (by decide) ?_
  refine v_aload_n X rfl dX5_openDoor_9 ?_
  refine v_getf X fd_X5_31 (rd_Train γ _ _ hk) rfl dX5_openDoor_10 ?_
  refine v_iconst' X kc_3 dX5_openDoor_13 ?_
  refine v_iload_n X rfl dX5_openDoor_14 ?_
  refine v_imul' X (pk_mul _ _) dX5_openDoor_15 ?_
  refine v_iload_n X rfl dX5_openDoor_16 ?_
  refine v_iadd' X (nI_add _ _) dX5_openDoor_17 ?_
  refine v_iload_n X rfl dX5_openDoor_18 ?_
  refine v_iast X (rd_Level γ _ _ hk) (((3 * a) + b)) rfl (by omega) (by decide) dX5_openDoor_19 ?_
  refine v_eqh (up_lev γ _ _ hk (by omega) _) ?_
  rw [f_levA hb]
  refine v_aload_n X rfl dX5_openDoor_20 ?_
  refine v_getf X fd_X5_34 (rd_Train γ _ _ hk) rfl dX5_openDoor_21 ?_
  refine v_iconst' X kc_3 dX5_openDoor_24 ?_
  refine v_iload_n X rfl dX5_openDoor_25 ?_
  refine v_imul' X (pk_mul _ _) dX5_openDoor_26 ?_
  refine v_iload_n X rfl dX5_openDoor_27 ?_
  refine v_iadd' X (nI_add _ _) dX5_openDoor_28 ?_
  refine v_sipush' X ks_m1001 dX5_openDoor_29 ?_
  refine v_iast X (rd_Rest γ _ _ hk) (((3 * a) + b)) rfl (by omega) (by decide) dX5_openDoor_32 ?_
  refine v_eqh (up_rest γ _ _ hk (by omega) _) ?_
  rw [f_restA hb]
  subst hQ0
  exact v_vret X rfl (Nat.le_of_ble_eq_true rfl) (Nat.le_of_ble_eq_true rfl) dX5_openDoor_33 ⟨rfl, by unfold q_moves; rw [if_neg hx]⟩
set_option maxHeartbeats 4000000 in
set_option maxRecDepth 100000 in
theorem c_X5_closeDoor (l : Launch) (γ : Gm) (w : Wd) (g : Nat → Int32) (k : Nat) (hk : k < 8) (cn : Nat) (hc : g 218 = nI cn) (h6 : cn ≤ 6) (a b : Nat) (ha : a < cn) (hb : b < 3) (hl : ¬ (g (120 + 8 * a + (2 + b))) < 0) : Cr l γ yX5_closeDoor cX5_closeDoor 4 none 1 22 0 0 [.ref (γ.1 + so k + 4), .int (nI a), .int (nI b), .int (g 230)] (rdw γ (wset w k g)) (Det none (rdw γ (wset w k (q_moves g a b (nI 0))))) := by
  refine Cr_of [some (.ref (γ.1 + so k + 4)), some (.int (nI a)), some (.int (nI b)), some (.int (g 230))] (by decide +kernel) (Nat.le_of_ble_eq_true rfl) rfl ?_
  intro p e s m args below meth c X
  refine v_q0 (fun Q0 hQ0 => ?_)
  refine v_aload_n X rfl dX5_closeDoor_0 ?_
  refine v_iload_n X rfl dX5_closeDoor_1 ?_
  refine v_iload_n X rfl dX5_closeDoor_2 ?_
  refine v_callV (ci := 5) X mv_X5_47 (c_X5_hasDoor_n l γ w g k hk cn hc h6 a b ha hb) rfl rfl (rd_Train γ _ _ hk) rfl ⟨Nat.le_of_ble_eq_true rfl, Nat.le_of_ble_eq_true rfl, Nat.le_of_ble_eq_true rfl, Nat.le_of_ble_eq_true rfl⟩ (Nat.le_of_ble_eq_true rfl) rfl dX5_closeDoor_3 rfl (det_i ?_)
  refine v_if_eq_f (tgt := 33) X dX5_closeDoor_6 (by decide) (by decide) ?_
  refine v_aload_n X rfl dX5_closeDoor_9 ?_
  refine v_getf X fd_X5_31 (rd_Train γ _ _ hk) rfl dX5_closeDoor_10 ?_
  refine v_iconst' X kc_3 dX5_closeDoor_13 ?_
  refine v_iload_n X rfl dX5_closeDoor_14 ?_
  refine v_imul' X (pk_mul _ _) dX5_closeDoor_15 ?_
  refine v_iload_n X rfl dX5_closeDoor_16 ?_
  refine v_iadd' X (nI_add _ _) dX5_closeDoor_17 ?_
  refine v_iald' X (v := (g (f_lev (3 * a + b)))) (rd_Level γ _ _ hk) (((3 * a) + b)) rfl (by omega) (by decide) (vw_at (by omega)) dX5_closeDoor_18 ?_
  rw [f_levA hb]
  refine v_if_eq (tgt := 33) X dX5_closeDoor_19 (by decide) (fun q1 => ?_) (fun q1 => ?_)
  · subst hQ0
    exact v_vret X rfl (Nat.le_of_ble_eq_true rfl) (Nat.le_of_ble_eq_true rfl) dX5_closeDoor_33 ⟨rfl, by unfold q_moves; first | rw [if_pos (by decide), if_pos (by rw [q1]; decide)] | rw [if_pos (by decide), if_neg (fun z => q1 (le_0 hl z))]⟩
  · refine v_aload_n X rfl dX5_closeDoor_22 ?_
    refine v_getf X fd_X5_34 (rd_Train γ _ _ hk) rfl dX5_closeDoor_23 ?_
    refine v_iconst' X kc_3 dX5_closeDoor_26 ?_
    refine v_iload_n X rfl dX5_closeDoor_27 ?_
    refine v_imul' X (pk_mul _ _) dX5_closeDoor_28 ?_
    refine v_iload_n X rfl dX5_closeDoor_29 ?_
    refine v_iadd' X (nI_add _ _) dX5_closeDoor_30 ?_
    refine v_iload_n X rfl dX5_closeDoor_31 ?_
    refine v_iast X (rd_Rest γ _ _ hk) (((3 * a) + b)) rfl (by omega) (by decide) dX5_closeDoor_32 ?_
    refine v_eqh (up_rest γ _ _ hk (by omega) _) ?_
    rw [f_restA hb]
    subst hQ0
    exact v_vret X rfl (Nat.le_of_ble_eq_true rfl) (Nat.le_of_ble_eq_true rfl) dX5_closeDoor_33 ⟨rfl, by unfold q_moves; first | rw [if_pos (by decide), if_pos (by rw [q1]; decide)] | rw [if_pos (by decide), if_neg (fun z => q1 (le_0 hl z))]⟩
set_option maxHeartbeats 4000000 in
set_option maxRecDepth 100000 in
theorem c_X5_move (l : Launch) (γ : Gm) (w : Wd) (g : Nat → Int32) (k : Nat) (hk : k < 8) : Cr l γ yX5_move cX5_move 1 none 1 24 0 0 [.ref (γ.1 + so k + 4)] (rdw γ (wset w k g)) (Det none (rdw γ (wset w k (q_place (q_speed g))))) := by
  refine Cr_of [some (.ref (γ.1 + so k + 4))] (by decide +kernel) (Nat.le_of_ble_eq_true rfl) rfl ?_
  intro p e s m args below meth c X
  refine v_q0 (fun Q0 hQ0 => ?_)
  refine v_aload_n X rfl dX5_move_0 ?_
  refine v_getf X (v := .int (g 220)) fd_X5_18 (rd_Train γ _ _ hk) rfl dX5_move_1 ?_
  refine v_aload_n X rfl dX5_move_4 ?_
  refine v_getf X (v := .int (g 221)) fd_X5_21 (rd_Train γ _ _ hk) rfl dX5_move_5 ?_
  have jn45 : ∀ (M : Nat → Int32), M = q_speed g → V p l e { frames := 1, cells := 0, slots := 0, locals := 24 } s m args below meth c γ Q0 (rdw γ (wset w k M)) 0 0 45 [some (.ref (γ.1 + so k + 4))] [] := by
    intro M hM
    subst hM
    refine v_aload_n X rfl dX5_move_45 ?_
    refine v_aload_n X rfl dX5_move_46 ?_
    refine v_getf X (v := .int ((q_speed g) 219)) fd_X5_15 (rd_Train γ _ _ hk) rfl dX5_move_47 ?_
    refine v_aload_n X rfl dX5_move_50 ?_
    refine v_getf X (v := .int ((q_speed g) 220)) fd_X5_18 (rd_Train γ _ _ hk) rfl dX5_move_51 ?_
    refine v_iadd X dX5_move_54 ?_
    refine v_bipush' X kb_99 dX5_move_55 ?_
    refine v_mmin X mm_X5_62 (Nat.le_of_ble_eq_true rfl) (Nat.le_of_ble_eq_true rfl) (Nat.le_of_ble_eq_true rfl) (Nat.le_of_ble_eq_true rfl) rfl dX5_move_57 ?_
    refine v_putf X fp_X5_15 (rd_Train γ _ _ hk) rfl rfl (Nat.le_of_ble_eq_true rfl) dX5_move_60 ?_
    refine v_eqh (up_place γ _ _ hk _) ?_
    subst hQ0
    exact v_vret X rfl (Nat.le_of_ble_eq_true rfl) (Nat.le_of_ble_eq_true rfl) dX5_move_63 ⟨rfl, rfl⟩
  refine v_icmp_ge (tgt := 24) X dX5_move_8 (by decide) (fun q1 => ?_) (fun q1 => ?_)
  · refine v_aload_n X rfl dX5_move_24 ?_
    refine v_getf X (v := .int (g 220)) fd_X5_18 (rd_Train γ _ _ hk) rfl dX5_move_25 ?_
    refine v_aload_n X rfl dX5_move_28 ?_
    refine v_getf X (v := .int (g 221)) fd_X5_21 (rd_Train γ _ _ hk) rfl dX5_move_29 ?_
    refine v_icmp_le (tgt := 45) X dX5_move_32 (by decide) (fun q2 => ?_) (fun q2 => ?_)
    · exact (jn45 _ (by unfold q_speed; first | (rw [if_neg (Int32.not_le.mpr (Int32.not_le.mp q1))]) | (rw [if_pos q1, if_pos q2, nI_0, Int32.add_zero, upd_same rfl]) | (rw [if_pos q1, if_neg q2, i_m1b])))
    · refine v_aload_n X rfl dX5_move_35 ?_
      refine v_dup X rfl dX5_move_36 ?_
      refine v_getf X (v := .int (g 220)) fd_X5_18 (rd_Train γ _ _ hk) rfl dX5_move_37 ?_
      refine v_iconst' X kc_1 dX5_move_40 ?_
      refine v_isub X dX5_move_41 ?_
      refine v_putf X fp_X5_18 (rd_Train γ _ _ hk) rfl rfl (Nat.le_of_ble_eq_true rfl) dX5_move_42 ?_
      refine v_eqh (up_speed γ _ _ hk _) ?_
      exact (jn45 _ (by unfold q_speed; first | (rw [if_neg (Int32.not_le.mpr (Int32.not_le.mp q1))]) | (rw [if_pos q1, if_pos q2, nI_0, Int32.add_zero, upd_same rfl]) | (rw [if_pos q1, if_neg q2, i_m1b])))
  · refine v_aload_n X rfl dX5_move_11 ?_
    refine v_dup X rfl dX5_move_12 ?_
    refine v_getf X (v := .int (g 220)) fd_X5_18 (rd_Train γ _ _ hk) rfl dX5_move_13 ?_
    refine v_iconst' X kc_1 dX5_move_16 ?_
    refine v_iadd X dX5_move_17 ?_
    refine v_putf X fp_X5_18 (rd_Train γ _ _ hk) rfl rfl (Nat.le_of_ble_eq_true rfl) dX5_move_18 ?_
    refine v_eqh (up_speed γ _ _ hk _) ?_
    refine v_goto (tgt := 45) X dX5_move_21 (by decide) ?_
    exact (jn45 _ (by unfold q_speed; first | (rw [if_neg (Int32.not_le.mpr (Int32.not_le.mp q1))]) | (rw [if_pos q1, if_pos q2, nI_0, Int32.add_zero, upd_same rfl]) | (rw [if_pos q1, if_neg q2, i_m1b])))
set_option maxHeartbeats 4000000 in
set_option maxRecDepth 100000 in
theorem c_X5_drop (l : Launch) (γ : Gm) (w : Wd) (g : Nat → Int32) (k : Nat) (hk : k < 8) (cn : Nat) (hc : g 218 = nI cn) (h6 : cn ≤ 6) (a b : Nat) (ha : a < cn) (hb : b < 3) : Cr l γ yX5_drop cX5_drop 4 (some .int) 1 24 0 0 [.ref (γ.1 + so k + 4), .int (nI a), .int (nI b)] (rdw γ (wset w k g)) (Det (some (.int (q_u g a b))) (rdw γ (wset w k (q_f2 g a b)))) := by
  refine Cr_of [some (.ref (γ.1 + so k + 4)), some (.int (nI a)), some (.int (nI b)), none] (by decide +kernel) (Nat.le_of_ble_eq_true rfl) rfl ?_
  intro p e s m args below meth c X
  refine v_q0 (fun Q0 hQ0 => ?_)
  refine v_aload_n X rfl dX5_drop_0 ?_
  refine v_iload_n X rfl dX5_drop_1 ?_
  refine v_iload_n X rfl dX5_drop_2 ?_
  refine v_callV (ci := 5) X mv_X5_47 (c_X5_hasDoor_n l γ w g k hk cn hc h6 a b ha hb) rfl rfl (rd_Train γ _ _ hk) rfl ⟨Nat.le_of_ble_eq_true rfl, Nat.le_of_ble_eq_true rfl, Nat.le_of_ble_eq_true rfl, Nat.le_of_ble_eq_true rfl⟩ (Nat.le_of_ble_eq_true rfl) rfl dX5_drop_3 rfl (det_i ?_)
  refine v_if_ne_t (tgt := 11) X dX5_drop_6 (by decide) (by decide) ?_
  refine v_aload_n X rfl dX5_drop_11 ?_
  refine v_getf X fd_X5_31 (rd_Train γ _ _ hk) rfl dX5_drop_12 ?_
  refine v_iconst' X kc_3 dX5_drop_15 ?_
  refine v_iload_n X rfl dX5_drop_16 ?_
  refine v_imul' X (pk_mul _ _) dX5_drop_17 ?_
  refine v_iload_n X rfl dX5_drop_18 ?_
  refine v_iadd' X (nI_add _ _) dX5_drop_19 ?_
  refine v_iald' X (v := (g (f_lev (3 * a + b)))) (rd_Level γ _ _ hk) (((3 * a) + b)) rfl (by omega) (by decide) (vw_at (by omega)) dX5_drop_20 ?_
  rw [f_levA hb]
  refine v_aload_n X rfl dX5_drop_21 ?_
  refine v_getf X fd_X5_24 (rd_Train γ _ _ hk) rfl dX5_drop_22 ?_
  refine v_iload_n X rfl dX5_drop_25 ?_
  refine v_iald' X (v := (g (120 + 8 * (a)))) (rd_Load γ _ _ hk) (a) rfl (by omega) (by decide) (vw_at (by omega)) dX5_drop_26 ?_
  refine v_mmin X mm_X5_62 (Nat.le_of_ble_eq_true rfl) (Nat.le_of_ble_eq_true rfl) (Nat.le_of_ble_eq_true rfl) (Nat.le_of_ble_eq_true rfl) rfl dX5_drop_27 ?_
  rw [min_lt]
  rw [show (if (g (120 + 8 * a + (2 + b))) < g (120 + 8 * (a)) then (g (120 + 8 * a + (2 + b))) else g (120 + 8 * (a))) = q_u g a b from rfl]
  refine v_istore_n X (Nat.le_of_ble_eq_true rfl) rfl dX5_drop_30 ?_
  refine v_aload_n X rfl dX5_drop_31 ?_
  refine v_getf X fd_X5_24 (rd_Train γ _ _ hk) rfl dX5_drop_32 ?_
  refine v_iload_n X rfl dX5_drop_35 ?_
  refine v_dup2 X rfl rfl dX5_drop_36 ?_
  refine v_iald' X (v := (g (120 + 8 * (a)))) (rd_Load γ _ _ hk) (a) rfl (by omega) (by decide) (vw_at (by omega)) dX5_drop_37 ?_
  refine v_iload_n X rfl dX5_drop_38 ?_
  refine v_isub X dX5_drop_39 ?_
  refine v_iast X (rd_Load γ _ _ hk) (a) rfl (by omega) (by decide) dX5_drop_40 ?_
  refine v_eqh (up_load γ _ _ hk (by omega) _) ?_
  refine v_aload_n X rfl dX5_drop_41 ?_
  refine v_getf X fd_X5_28 (rd_Train γ _ _ hk) rfl dX5_drop_42 ?_
  refine v_iload_n X rfl dX5_drop_45 ?_
  refine v_dup2 X rfl rfl dX5_drop_46 ?_
  refine v_iald' X (v := ((upd g (120 + 8 * (a)) ((g (120 + 8 * (a))) - (q_u g a b))) (f_left (a)))) (rd_Left γ _ _ hk) (a) rfl (by omega) (by decide) (vw_at (by omega)) dX5_drop_47 ?_
  refine v_iload_n X rfl dX5_drop_48 ?_
  refine v_iadd X dX5_drop_49 ?_
  refine v_iast X (rd_Left γ _ _ hk) (a) rfl (by omega) (by decide) dX5_drop_50 ?_
  refine v_eqh (up_left γ _ _ hk (by omega) _) ?_
  refine v_iload_n X rfl dX5_drop_51 ?_
  subst hQ0
  exact v_iret X rfl (Nat.le_of_ble_eq_true rfl) (Nat.le_of_ble_eq_true rfl) dX5_drop_52 ⟨rfl, by rw [f_leftA]; rfl⟩
