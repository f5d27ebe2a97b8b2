set_option maxHeartbeats 4000000 in
set_option maxRecDepth 100000 in
theorem c_X6_isWithin (l : Launch) (γ : Gm) (h : HP) (x a b : Int32) : Cr l γ yX6_isWithin cX6_isWithin 3 (some .boolean) 0 0 0 0 [.int x, .int a, .int b] (h) (Det (some (.int (bi (¬ x < a ∧ ¬ b < x)))) h) := by
  refine Cr_of [some (.int x), some (.int a), some (.int b)] (by decide +kernel) (Nat.le_of_ble_eq_true rfl) rfl ?_
  intro p e s m args below meth c X
  refine v_q0 (fun Q0 hQ0 => ?_)
  refine v_iload_n X rfl dX6_isWithin_0 ?_
  refine v_iload_n X rfl dX6_isWithin_1 ?_
  refine v_icmp_lt (tgt := 14) X dX6_isWithin_2 (by decide) (fun q1 => ?_) (fun q1 => ?_)
  · refine v_iconst' X kc_0 dX6_isWithin_14 ?_
    subst hQ0
    exact v_zret X rfl rfl (Nat.le_of_ble_eq_true rfl) (Nat.le_of_ble_eq_true rfl) dX6_isWithin_15 ⟨so_some (by first | exact bi_t ⟨q1, q2⟩ | exact bi_f (fun z => z.1 q1) | exact bi_f (fun z => z.2 q2)), rfl⟩
  · refine v_iload_n X rfl dX6_isWithin_5 ?_
    refine v_iload_n X rfl dX6_isWithin_6 ?_
    refine v_icmp_gt (tgt := 14) X dX6_isWithin_7 (by decide) (fun q2 => ?_) (fun q2 => ?_)
    · refine v_iconst' X kc_0 dX6_isWithin_14 ?_
      subst hQ0
      exact v_zret X rfl rfl (Nat.le_of_ble_eq_true rfl) (Nat.le_of_ble_eq_true rfl) dX6_isWithin_15 ⟨so_some (by first | exact bi_t ⟨q1, q2⟩ | exact bi_f (fun z => z.1 q1) | exact bi_f (fun z => z.2 q2)), rfl⟩
    · refine v_iconst' X kc_1 dX6_isWithin_10 ?_
      refine v_goto (tgt := 15) X dX6_isWithin_11 (by decide) ?_
      subst hQ0
      exact v_zret X rfl rfl (Nat.le_of_ble_eq_true rfl) (Nat.le_of_ble_eq_true rfl) dX6_isWithin_15 ⟨so_some (by first | exact bi_t ⟨q1, q2⟩ | exact bi_f (fun z => z.1 q1) | exact bi_f (fun z => z.2 q2)), rfl⟩
set_option maxHeartbeats 4000000 in
set_option maxRecDepth 100000 in
theorem c_X4_has (l : Launch) (γ : Gm) (h : HP) (a b : Int32) : Cr l γ yX4_has cX4_has 2 (some .boolean) 0 0 0 0 [.int a, .int b] (h) (Det (some (.int (bi ((¬ a < nI 0 ∧ ¬ nI 39 < a) ∧ (¬ b < nI 0 ∧ ¬ nI 2 < b))))) h) := by
  refine Cr_of [some (.int a), some (.int b)] (by decide +kernel) (Nat.le_of_ble_eq_true rfl) rfl ?_
  intro p e s m args below meth c X
  refine v_q0 (fun Q0 hQ0 => ?_)
  refine v_iload_n X rfl dX4_has_0 ?_
  refine v_if_lt (tgt := 23) X dX4_has_1 (by decide) (fun q1 => ?_) (fun q1 => ?_)
  · refine v_iconst' X kc_0 dX4_has_23 ?_
    subst hQ0
    exact v_zret X rfl rfl (Nat.le_of_ble_eq_true rfl) (Nat.le_of_ble_eq_true rfl) dX4_has_24 ⟨so_some (by first | exact bi_t ⟨⟨q1, fun z => q2 ((ge_gt (by decide)).mpr z)⟩, q3, fun z => q4 ((ge_gt (by decide)).mpr z)⟩ | exact bi_f (fun z => z.1.1 q1) | exact bi_f (fun z => z.1.2 ((ge_gt (by decide)).mp q2)) | exact bi_f (fun z => z.2.1 q3) | exact bi_f (fun z => z.2.2 ((ge_gt (by decide)).mp q4))), rfl⟩
  · refine v_iload_n X rfl dX4_has_4 ?_
    refine v_bipush' X kb_40 dX4_has_5 ?_
    refine v_icmp_ge (tgt := 23) X dX4_has_7 (by decide) (fun q2 => ?_) (fun q2 => ?_)
    · refine v_iconst' X kc_0 dX4_has_23 ?_
      subst hQ0
      exact v_zret X rfl rfl (Nat.le_of_ble_eq_true rfl) (Nat.le_of_ble_eq_true rfl) dX4_has_24 ⟨so_some (by first | exact bi_t ⟨⟨q1, fun z => q2 ((ge_gt (by decide)).mpr z)⟩, q3, fun z => q4 ((ge_gt (by decide)).mpr z)⟩ | exact bi_f (fun z => z.1.1 q1) | exact bi_f (fun z => z.1.2 ((ge_gt (by decide)).mp q2)) | exact bi_f (fun z => z.2.1 q3) | exact bi_f (fun z => z.2.2 ((ge_gt (by decide)).mp q4))), rfl⟩
    · refine v_iload_n X rfl dX4_has_10 ?_
      refine v_if_lt (tgt := 23) X dX4_has_11 (by decide) (fun q3 => ?_) (fun q3 => ?_)
      · refine v_iconst' X kc_0 dX4_has_23 ?_
        subst hQ0
        exact v_zret X rfl rfl (Nat.le_of_ble_eq_true rfl) (Nat.le_of_ble_eq_true rfl) dX4_has_24 ⟨so_some (by first | exact bi_t ⟨⟨q1, fun z => q2 ((ge_gt (by decide)).mpr z)⟩, q3, fun z => q4 ((ge_gt (by decide)).mpr z)⟩ | exact bi_f (fun z => z.1.1 q1) | exact bi_f (fun z => z.1.2 ((ge_gt (by decide)).mp q2)) | exact bi_f (fun z => z.2.1 q3) | exact bi_f (fun z => z.2.2 ((ge_gt (by decide)).mp q4))), rfl⟩
      · refine v_iload_n X rfl dX4_has_14 ?_
        refine v_iconst' X kc_3 dX4_has_15 ?_
        refine v_icmp_ge (tgt := 23) X dX4_has_16 (by decide) (fun q4 => ?_) (fun q4 => ?_)
        · refine v_iconst' X kc_0 dX4_has_23 ?_
          subst hQ0
          exact v_zret X rfl rfl (Nat.le_of_ble_eq_true rfl) (Nat.le_of_ble_eq_true rfl) dX4_has_24 ⟨so_some (by first | exact bi_t ⟨⟨q1, fun z => q2 ((ge_gt (by decide)).mpr z)⟩, q3, fun z => q4 ((ge_gt (by decide)).mpr z)⟩ | exact bi_f (fun z => z.1.1 q1) | exact bi_f (fun z => z.1.2 ((ge_gt (by decide)).mp q2)) | exact bi_f (fun z => z.2.1 q3) | exact bi_f (fun z => z.2.2 ((ge_gt (by decide)).mp q4))), rfl⟩
        · refine v_iconst' X kc_1 dX4_has_19 ?_
          refine v_goto (tgt := 24) X dX4_has_20 (by decide) ?_
          subst hQ0
          exact v_zret X rfl rfl (Nat.le_of_ble_eq_true rfl) (Nat.le_of_ble_eq_true rfl) dX4_has_24 ⟨so_some (by first | exact bi_t ⟨⟨q1, fun z => q2 ((ge_gt (by decide)).mpr z)⟩, q3, fun z => q4 ((ge_gt (by decide)).mpr z)⟩ | exact bi_f (fun z => z.1.1 q1) | exact bi_f (fun z => z.1.2 ((ge_gt (by decide)).mp q2)) | exact bi_f (fun z => z.2.1 q3) | exact bi_f (fun z => z.2.2 ((ge_gt (by decide)).mp q4))), rfl⟩
theorem c_X4_has_n (l : Launch) (γ : Gm) (h : HP) (c s : Nat) (hc : c < 40) (hs : s < 3) : Cr l γ yX4_has cX4_has 2 (some .boolean) 0 0 0 0 [.int (nI c), .int (nI s)] h (Det (some (.int (nI 1))) h) := by
  have h9 := c_X4_has l γ h (nI c) (nI s)
  rw [← bi_t (c := (¬ nI c < nI 0 ∧ ¬ nI 39 < nI c) ∧ (¬ nI s < nI 0 ∧ ¬ nI 2 < nI s)) ⟨nI_in0 (by omega) (by decide), nI_in0 (by omega) (by decide)⟩] at h9
  exact h9
set_option maxHeartbeats 4000000 in
set_option maxRecDepth 100000 in
theorem c_X4_heightAt (l : Launch) (γ : Gm) (w : Wd) (g : Nat → Int32) (k : Nat) (hk : k < 8) (a b : Nat) (ha : a < 40) (hb : b < 3) : Cr l γ yX4_heightAt cX4_heightAt 3 (some .int) 1 21 0 0 [.ref (γ.1 + so k + 2), .int (nI a), .int (nI b)] (rdw γ (wset w k g)) (Det (some (.int (g (3 * a + b)))) (rdw γ (wset w k (g)))) := by
  refine Cr_of [some (.ref (γ.1 + so k + 2)), some (.int (nI a)), some (.int (nI b))] (by decide +kernel) (Nat.le_of_ble_eq_true rfl) rfl ?_
  intro p e s m args below meth c X
  refine v_q0 (fun Q0 hQ0 => ?_)
  refine v_iload_n X rfl dX4_heightAt_0 ?_
  refine v_iload_n X rfl dX4_heightAt_1 ?_
  refine v_callS X ms_X4_15 (c_X4_has_n l γ _ a b ha hb) rfl ⟨Nat.le_of_ble_eq_true rfl, Nat.le_of_ble_eq_true rfl, Nat.le_of_ble_eq_true rfl, Nat.le_of_ble_eq_true rfl⟩ (Nat.le_of_ble_eq_true rfl) rfl dX4_heightAt_2 rfl (det_i ?_)
  refine v_if_eq_f (tgt := 21) X dX4_heightAt_5 (by decide) (by decide) ?_
  refine v_aload_n X rfl dX4_heightAt_8 ?_
  refine v_getf X fd_X4_9 (rd_Track γ _ _ hk) rfl dX4_heightAt_9 ?_
  refine v_iconst' X kc_3 dX4_heightAt_12 ?_
  refine v_iload_n X rfl dX4_heightAt_13 ?_
  refine v_imul' X (pk_mul _ _) dX4_heightAt_14 ?_
  refine v_iload_n X rfl dX4_heightAt_15 ?_
  refine v_iadd' X (nI_add _ _) dX4_heightAt_16 ?_
  refine v_iald' X (v := (g (((3 * a) + b)))) (rd_Heights γ _ _ hk) (((3 * a) + b)) rfl (by omega) (by decide) (vw_at (by omega)) dX4_heightAt_17 ?_
  refine v_goto (tgt := 22) X dX4_heightAt_18 (by decide) ?_
  subst hQ0
  exact v_iret X rfl (Nat.le_of_ble_eq_true rfl) (Nat.le_of_ble_eq_true rfl) dX4_heightAt_22 ⟨rfl, rfl⟩
set_option maxHeartbeats 4000000 in
set_option maxRecDepth 100000 in
theorem c_X4_add (l : Launch) (γ : Gm) (w : Wd) (g : Nat → Int32) (k : Nat) (hk : k < 8) (a b : Nat) (ha : a < 40) (hb : b < 3) (x : Int32) : Cr l γ yX4_add cX4_add 4 none 1 21 0 0 [.ref (γ.1 + so k + 2), .int (nI a), .int (nI b), .int x] (rdw γ (wset w k g)) (Det none (rdw γ (wset w k (upd g (3 * a + b) (g (3 * a + b) + x))))) := by
  refine Cr_of [some (.ref (γ.1 + so k + 2)), some (.int (nI a)), some (.int (nI b)), some (.int x)] (by decide +kernel) (Nat.le_of_ble_eq_true rfl) rfl ?_
  intro p e s m args below meth c X
  refine v_q0 (fun Q0 hQ0 => ?_)
  refine v_iload_n X rfl dX4_add_0 ?_
  refine v_iload_n X rfl dX4_add_1 ?_
  refine v_callS X ms_X4_15 (c_X4_has_n l γ _ a b ha hb) rfl ⟨Nat.le_of_ble_eq_true rfl, Nat.le_of_ble_eq_true rfl, Nat.le_of_ble_eq_true rfl, Nat.le_of_ble_eq_true rfl⟩ (Nat.le_of_ble_eq_true rfl) rfl dX4_add_2 rfl (det_i ?_)
  refine v_if_eq_f (tgt := 22) X dX4_add_5 (by decide) (by decide) ?_
  refine v_aload_n X rfl dX4_add_8 ?_
  refine v_getf X fd_X4_9 (rd_Track γ _ _ hk) rfl dX4_add_9 ?_
  refine v_iconst' X kc_3 dX4_add_12 ?_
  refine v_iload_n X rfl dX4_add_13 ?_
  refine v_imul' X (pk_mul _ _) dX4_add_14 ?_
  refine v_iload_n X rfl dX4_add_15 ?_
  refine v_iadd' X (nI_add _ _) dX4_add_16 ?_
  refine v_dup2 X rfl rfl dX4_add_17 ?_
  refine v_iald' X (v := (g (((3 * a) + b)))) (rd_Heights γ _ _ hk) (((3 * a) + b)) rfl (by omega) (by decide) (vw_at (by omega)) dX4_add_18 ?_
  refine v_iload_n X rfl dX4_add_19 ?_
  refine v_iadd X dX4_add_20 ?_
  refine v_iast X (rd_Heights γ _ _ hk) (((3 * a) + b)) rfl (by omega) (by decide) dX4_add_21 ?_
  refine v_eqh (up_hts γ _ _ hk (by omega) _) ?_
  subst hQ0
  exact v_vret X rfl (Nat.le_of_ble_eq_true rfl) (Nat.le_of_ble_eq_true rfl) dX4_add_22 ⟨rfl, rfl⟩
