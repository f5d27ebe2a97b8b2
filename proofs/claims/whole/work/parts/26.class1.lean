set_option maxHeartbeats 4000000 in
set_option maxRecDepth 100000 in
theorem c_X6_isWithin (l : Launch) (γ : Gm) (h : HP) (x a b : Int32) : Cr l γ yX6_isWithin cX6_isWithin 3 (some .boolean) 0 0 0 0 [.int x, .int a, .int b] (h) (Det (some (.int (bi (¬ x < a ∧ ¬ b < x)))) h) := by
  refine Cr_of [some (.int x), some (.int a), some (.int b)] (by decide +kernel) (Nat.le_of_ble_eq_true rfl) rfl ?_
  intro p e s m args below meth c X
  refine v_q0 (fun Q0 hQ0 => ?_)
  refine v_iload_n X rfl dX6_isWithin_0 ?_
  refine v_iload_n X rfl dX6_isWithin_1 ?_
  refine v_icmp_lt (tgt := 14) X dX6_isWithin_2 (by decide) (fun q1 => ?_) (fun q1 => ?_)
  · refine v_iconst' X kc_0 dX6_isWithin_14 ?_
    subst hQ0
    exact v_zret X rfl rfl (Nat.le_of_ble_eq_true rfl) (Nat.le_of_ble_eq_true rfl) dX6_isWithin_15 ⟨so_some (by first | exact bi_t ⟨q1, q2⟩ | exact bi_f (fun z => z.1 q1) | exact bi_f (fun z => z.2 q2)), rfl⟩
  · refine v_iload_n X rfl dX6_isWithin_5 ?_
    refine v_iload_n X rfl dX6_isWithin_6 ?_
    refine v_icmp_gt (tgt := 14) X dX6_isWithin_7 (by decide) (fun q2 => ?_) (fun q2 => ?_)
    · refine v_iconst' X kc_0 dX6_isWithin_14 ?_
      subst hQ0
      exact v_zret X rfl rfl (Nat.le_of_ble_eq_true rfl) (Nat.le_of_ble_eq_true rfl) dX6_isWithin_15 ⟨so_some (by first | exact bi_t ⟨q1, q2⟩ | exact bi_f (fun z => z.1 q1) | exact bi_f (fun z => z.2 q2)), rfl⟩
    · refine v_iconst' X kc_1 dX6_isWithin_10 ?_
      refine v_goto (tgt := 15) X dX6_isWithin_11 (by decide) ?_
      subst hQ0
      exact v_zret X rfl rfl (Nat.le_of_ble_eq_true rfl) (Nat.le_of_ble_eq_true rfl) dX6_isWithin_15 ⟨so_some (by first | exact bi_t ⟨q1, q2⟩ | exact bi_f (fun z => z.1 q1) | exact bi_f (fun z => z.2 q2)), rfl⟩
set_option maxHeartbeats 4000000 in
set_option maxRecDepth 100000 in
theorem c_X4_has (l : Launch) (γ : Gm) (h : HP) (a b : Int32) : Cr l γ yX4_has cX4_has 2 (some .boolean) 0 0 0 0 [.int a, .int b] (h) (Det (some (.int (bi ((¬ a < nI 0 ∧ ¬ nI 39 < a) ∧ (¬ b < nI 0 ∧ ¬ nI 2 < b))))) h) := by
  refine Cr_of [some (.int a), some (.int b)] (by decide +kernel) (Nat.le_of_ble_eq_true rfl) rfl ?_
  intro p e s m args below meth c X
  refine v_q0 (fun Q0 hQ0 => ?_)
  refine v_iload_n X rfl dX4_has_0 ?_
  refine v_if_lt (tgt := 23) X dX4_has_1 (by decide) (fun q1 => ?_) (fun q1 => ?_)
  · refine v_iconst' X kc_0 dX4_has_23 ?_
    subst hQ0
    exact v_zret X rfl rfl (Nat.le_of_ble_eq_true rfl) (Nat.le_of_ble_eq_true rfl) dX4_has_24 ⟨so_some (by first | exact bi_t ⟨⟨q1, fun z => q2 ((ge_gt (by decide)).mpr z)⟩, q3, fun z => q4 ((ge_gt (by decide)).mpr z)⟩ | exact bi_f (fun z => z.1.1 q1) | exact bi_f (fun z => z.1.2 ((ge_gt (by decide)).mp q2)) | exact bi_f (fun z => z.2.1 q3) | exact bi_f (fun z => z.2.2 ((ge_gt (by decide)).mp q4))), rfl⟩
  · refine v_iload_n X rfl dX4_has_4 ?_
    refine v_bipush' X kb_40 dX4_has_5 ?_
    refine v_icmp_ge (tgt := 23) X dX4_has_7 (by decide) (fun q2 => ?_) (fun q2 => ?_)
    · refine v_iconst' X kc_0 dX4_has_23 ?_
      subst hQ0
      exact v_zret X rfl rfl (Nat.le_of_ble_eq_true rfl) (Nat.le_of_ble_eq_true rfl) dX4_has_24 ⟨so_some (by first | exact bi_t ⟨⟨q1, fun z => q2 ((ge_gt (by decide)).mpr z)⟩, q3, fun z => q4 ((ge_gt (by decide)).mpr z)⟩ | exact bi_f (fun z => z.1.1 q1) | exact bi_f (fun z => z.1.2 ((ge_gt (by decide)).mp q2)) | exact bi_f (fun z => z.2.1 q3) | exact bi_f (fun z => z.2.2 ((ge_gt (by decide)).mp q4))), rfl⟩
    · refine v_iload_n X rfl dX4_has_10 ?_
      refine v_if_lt (tgt := 23) X dX4_has_11 (by decide) (fun q3 => ?_) (fun q3 => ?_)
      · refine v_iconst' X kc_0 dX4_has_23 ?_
        subst hQ0
        exact v_zret X rfl rfl (Nat.le_of_ble_eq_true rfl) (Nat.le_of_ble_eq_true rfl) dX4_has_24 ⟨so_some (by first | exact bi_t ⟨⟨q1, fun z => q2 ((ge_gt (by decide)).mpr z)⟩, q3, fun z => q4 ((ge_gt (by decide)).mpr z)⟩ | exact bi_f (fun z => z.1.1 q1) | exact bi_f (fun z => z.1.2 ((ge_gt (by decide)).mp q2)) | exact bi_f (fun z => z.2.1 q3) | exact bi_f (fun z => z.2.2 ((ge_gt (by decide)).mp q4))), rfl⟩
      · refine v_iload_n X rfl dX4_has_14 ?_
        refine v_iconst' X kc_3 dX4_has_15 ?_
        refine v_icmp_ge (tgt := 23) X dX4_has_16 (by decide) (fun q4 => ?_) (fun q4 => ?_)
        · refine v_iconst' X kc_0 dX4_has_23 ?_
          subst hQ0
          exact v_zret X rfl rfl (Nat.le_of_ble_eq_true rfl) (Nat.le_of_ble_eq_true rfl) dX4_has_24 ⟨so_some (by first | exact bi_t ⟨⟨q1, fun z => q2 ((ge_gt (by decide)).mpr z)⟩, q3, fun z => q4 ((ge_gt (by decide)).mpr z)⟩ | exact bi_f (fun z => z.1.1 q1) | exact bi_f (fun z => z.1.2 ((ge_gt (by decide)).mp q2)) | exact bi_f (fun z => z.2.1 q3) | exact bi_f (fun z => z.2.2 ((ge_gt (by decide)).mp q4))), rfl⟩
        · refine v_iconst' X kc_1 dX4_has_19 ?_
          refine v_goto (tgt := 24) X dX4_has_20 (by decide) ?_
          subst hQ0
          exact v_zret X rfl rfl (Nat.le_of_ble_eq_true rfl) (Nat.le_of_ble_eq_true rfl) dX4_has_24 ⟨so_some (by first | exact bi_t ⟨⟨q1, fun z => q2 ((ge_gt (by decide)).mpr z)⟩, q3, fun z => q4 ((ge_gt (by decide)).mpr z)⟩ | exact bi_f (fun z => z.1.1 q1) | exact bi_f (fun z => z.1.2 ((ge_gt (by decide)).mp q2)) | exact bi_f (fun z => z.2.1 q3) | exact bi_f (fun z => z.2.2 ((ge_gt (by decide)).mp q4))), rfl⟩
theorem c_X4_has_n (l : Launch) (γ : Gm) (h : HP) (c s : Nat) (hc : c < 40) (hs : s < 3) : Cr l γ yX4_has cX4_has 2 (some .boolean) 0 0 0 0 [.int (nI c), .int (nI s)] h (Det (some (.int (nI 1))) h) := by
  have h9 := c_X4_has l γ h (nI c) (nI s)
  rw [← bi_t (c := (¬ nI c < nI 0 ∧ ¬ nI 39 < nI c) ∧ (¬ nI s < nI 0 ∧ ¬ nI 2 < nI s)) ⟨nI_in0 (by omega) (by decide), nI_in0 (by omega) (by decide)⟩] at h9
  exact h9
set_option maxHeartbeats 4000000 in
set_option maxRecDepth 100000 in
theorem c_X4_heightAt (l : Launch) (γ : Gm) (w : Wd) (g : Nat → Int32) (k : Nat) (hk : k < 8) (a b : Nat) (ha : a < 40) (hb : b < 3) : Cr l γ yX4_heightAt cX4_heightAt 3 (some .int) 1 21 0 0 [.ref (γ.1 + so k + 2), .int (nI a), .int (nI b)] (rdw γ (wset w k g)) (Det (some (.int (g (3 * a + b)))) (rdw γ (wset w k (g)))) := by
  refine Cr_of [some (.ref (γ.1 + so k + 2)), some (.int (nI a)), some (.int (nI b))] (by decide +kernel) (Nat.le_of_ble_eq_true rfl) rfl ?_
  intro p e s m args below meth c X
  refine v_q0 (fun Q0 hQ0 => ?_)
  refine v_iload_n X rfl dX4_heightAt_0 ?_
  refine v_iload_n X rfl dX4_heightAt_1 ?_
  refine v_callS X ms_X4_15 (c_X4_has_n l γ _ a b ha hb) rfl ⟨Nat.le_of_ble_eq_true rfl, Nat.le_of_ble_eq_true rfl, Nat.le_of_ble_eq_true rfl, Nat.le_of_ble_eq_true rfl⟩ (Nat.le_of_ble_eq_true rfl) rfl dX4_heightAt_2 rfl (det_i ?_)
  refine v_if_eq_f (tgt := 21) X dX4_heightAt_5 (by decide) (by decide) ?_
  refine v_aload_n X rfl dX4_heightAt_8 ?_
  refine v_getf X fd_X4_9 (rd_Track γ _ _ hk) rfl dX4_heightAt_9 ?_
  refine v_iconst' X kc_3 dX4_heightAt_12 ?_
  refine v_iload_n X rfl dX4_heightAt_13 ?_
  refine v_imul' X (pk_mul _ _) dX4_heightAt_14 ?_
  refine v_iload_n X rfl dX4_heightAt_15 ?_
  refine v_iadd' X (nI_add _ _) dX4_heightAt_16 ?_
  refine v_iald' X (v := (g (((3 * a) + b)))) (rd_Heights γ _ _ hk) (((3 * a) + b)) rfl (by omega) (by decide) (vw_at (by omega)) dX4_heightAt_17 ?_
  refine v_goto (tgt := 22) X dX4_heightAt_18 (by decide) ?_
  subst hQ0
  exact v_iret X rfl (Nat.le_of_ble_eq_true rfl) (Nat.le_of_ble_eq_true rfl) dX4_heightAt_22 ⟨rfl, rfl⟩
set_option maxHeartbeats 4000000 in
set_option maxRecDepth 100000 in
theorem c_X4_add (l : Launch) (γ : Gm) (w : Wd) (g : Nat → Int32) (k : Nat) (hk : k < 8) (a b : Nat) (ha : a < 40) (hb : b < 3) (x : Int32) : Cr l γ yX4_add cX4_add 4 none 1 21 0 0 [.ref (γ.1 + so k + 2), .int (nI a), .int (nI b), .int x] (rdw γ (wset w k g)) (Det none (rdw γ (wset w k (upd g (3 * a + b) (g (3 * a + b) + x))))) := by
  refine Cr_of [some (.ref (γ.1 + so k + 2)), some (.int (nI a)), some (.int (nI b)), some (.int x)] (by decide +kernel) (Nat.le_of_ble_eq_true rfl) rfl ?_
  intro p e s m args below meth c X
  refine v_q0 (fun Q0 hQ0 => ?_)
  refine v_iload_n X rfl dX4_add_0 ?_
  refine v_iload_n X rfl dX4_add_1 ?_
  refine v_callS X ms_X4_15 (c_X4_has_n l γ _ a b ha hb) rfl ⟨Nat.le_of_ble_eq_true rfl, Nat.le_of_ble_eq_true rfl, Nat.le_of_ble_eq_true rfl, Nat.le_of_ble_eq_true rfl⟩ (Nat.le_of_ble_eq_true rfl) rfl dX4_add_2 rfl (det_i ?_)
  refine v_if_eq_f (tgt := 22) X dX4_add_5 (by decide) (by decide) ?_
  refine v_aload_n X rfl dX4_add_8 ?_
  refine v_getf X fd_X4_9 (rd_Track γ _ _ hk) rfl dX4_add_9 ?_
  refine v_iconst' X kc_3 dX4_add_12 ?_
  refine v_iload_n X rfl dX4_add_13 ?_
  refine v_imul' X (pk_mul _ _) dX4_add_14 ?_
  refine v_iload_n X rfl dX4_add_15 ?_
  refine v_iadd' X (nI_add _ _) dX4_add_16 ?_
  refine v_dup2 X rfl rfl dX4_add_17 ?_
  refine v_iald' X (v := (g (((3 * a) + b)))) (rd_Heights γ _ _ hk) (((3 * a) + b)) rfl (by omega) (by decide) (vw_at (by omega)) dX4_add_18 ?_
  refine v_iload_n X rfl dX4_add_19 ?_
  refine v_iadd X dX4_add_20 ?_
  refine v_iast X (rd_Heights γ _ _ hk) (((3 * a) + b)) rfl (by omega) (by decide) dX4_add_21 ?_
  refine v_eqh (up_hts γ _ _ hk (by omega) _) ?_
  subst hQ0
  exact v_vret X rfl (Nat.le_of_ble_eq_true rfl) (Nat.le_of_ble_eq_true rfl) dX4_add_22 ⟨rfl, rfl⟩
set_option maxHeartbeats 4000000 in
set_option maxRecDepth 100000 in
theorem c_X4_sumOn (l : Launch) (γ : Gm) (w : Wd) (g : Nat → Int32) (k : Nat) (hk : k < 8) (b : Nat) (hb : b < 3) : Cr l γ yX4_sumOn cX4_sumOn 4 (some .int) 2 43 0 0 [.ref (γ.1 + so k + 2), .int (nI b)] (rdw γ (wset w k g)) (Det (some (.int (s_sum g b 40))) (rdw γ (wset w k (g)))) := by
  refine Cr_of [some (.ref (γ.1 + so k + 2)), some (.int (nI b)), none, none] (by decide +kernel) (Nat.le_of_ble_eq_true rfl) rfl ?_
  intro p e s m args below meth c X
  refine v_q0 (fun Q0 hQ0 => ?_)
  refine v_iconst' X kc_0 dX4_sumOn_0 ?_
  refine v_istore_n X (Nat.le_of_ble_eq_true rfl) rfl dX4_sumOn_1 ?_
  refine v_iconst' X kc_0 dX4_sumOn_2 ?_
  refine v_istore_n X (Nat.le_of_ble_eq_true rfl) rfl dX4_sumOn_3 ?_
  have lp4 : ∀ (n : Nat) (j : Nat), j ≤ 40 ∧ 41 ≤ j + n → V p l e { frames := 2, cells := 0, slots := 0, locals := 43 } s m args below meth c γ Q0 (rdw γ (wset w k g)) 0 0 4 [some (.ref (γ.1 + so k + 2)), some (.int (nI b)), some (.int (s_sum g b j)), some (.int (nI j))] [] := by
    intro n
    induction n with
    | zero =>
      intro j hbd
      exact absurd hbd (by omega)
    | succ n ih =>
      intro j hbd
      refine v_iload_n X rfl dX4_sumOn_4 ?_
      refine v_bipush' X kb_40 dX4_sumOn_5 ?_
      refine v_icmp_ge_n (tgt := 25) X dX4_sumOn_7 (by decide) (by omega) (by omega) (fun c_7 => ?_) (fun c_7 => ?_)
      · have hj : 40 = j := by omega
        subst hj
        refine v_iload_n X rfl dX4_sumOn_25 ?_
        subst hQ0
        exact v_iret X rfl (Nat.le_of_ble_eq_true rfl) (Nat.le_of_ble_eq_true rfl) dX4_sumOn_26 ⟨rfl, rfl⟩
      · refine v_iload_n X rfl dX4_sumOn_10 ?_
        refine v_aload_n X rfl dX4_sumOn_11 ?_
        refine v_iload_n X rfl dX4_sumOn_12 ?_
        refine v_iload_n X rfl dX4_sumOn_13 ?_
        refine v_callV (ci := 5) X mv_X4_23 (c_X4_heightAt l γ w g k hk j b (by omega) (by omega)) rfl rfl (rd_Track γ _ _ hk) rfl ⟨Nat.le_of_ble_eq_true rfl, Nat.le_of_ble_eq_true rfl, Nat.le_of_ble_eq_true rfl, Nat.le_of_ble_eq_true rfl⟩ (Nat.le_of_ble_eq_true rfl) rfl dX4_sumOn_14 rfl (det_i ?_)
        refine v_iadd X dX4_sumOn_17 ?_
        refine v_istore_n X (Nat.le_of_ble_eq_true rfl) rfl dX4_sumOn_18 ?_
        refine v_iinc' X rfl rfl (nI_inc _) dX4_sumOn_19 ?_
        refine v_goto (tgt := 4) X dX4_sumOn_22 (by decide) ?_
        exact (ih (j + 1) ⟨by omega, by omega⟩)
  exact (lp4 41 0 ⟨by omega, by omega⟩)
set_option maxHeartbeats 4000000 in
set_option maxRecDepth 100000 in
theorem c_X4_firstGreatestOn (l : Launch) (γ : Gm) (w : Wd) (g : Nat → Int32) (k : Nat) (hk : k < 8) (b : Nat) (hb : b < 3) : Cr l γ yX4_firstGreatestOn cX4_firstGreatestOn 4 (some .int) 2 43 0 0 [.ref (γ.1 + so k + 2), .int (nI b)] (rdw γ (wset w k g)) (Det (some (.int (nI (s_high g b 40)))) (rdw γ (wset w k (g)))) := by
  refine Cr_of [some (.ref (γ.1 + so k + 2)), some (.int (nI b)), none, none] (by decide +kernel) (Nat.le_of_ble_eq_true rfl) rfl ?_
  intro p e s m args below meth c X
  refine v_q0 (fun Q0 hQ0 => ?_)
  refine v_iconst' X kc_0 dX4_firstGreatestOn_0 ?_
  refine v_istore_n X (Nat.le_of_ble_eq_true rfl) rfl dX4_firstGreatestOn_1 ?_
  refine v_iconst' X kc_1 dX4_firstGreatestOn_2 ?_
  refine v_istore_n X (Nat.le_of_ble_eq_true rfl) rfl dX4_firstGreatestOn_3 ?_
  have lp4 : ∀ (n : Nat) (j : Nat), 1 ≤ j ∧ j ≤ 40 ∧ 41 ≤ j + n → V p l e { frames := 2, cells := 0, slots := 0, locals := 43 } s m args below meth c γ Q0 (rdw γ (wset w k g)) 0 0 4 [some (.ref (γ.1 + so k + 2)), some (.int (nI b)), some (.int (nI (s_high g b j))), some (.int (nI j))] [] := by
    intro n
    induction n with
    | zero =>
      intro j hbd
      exact absurd hbd (by omega)
    | succ n ih =>
      intro j hbd
      have hh := s_high_lt g b j (by omega)
      refine v_iload_n X rfl dX4_firstGreatestOn_4 ?_
      refine v_bipush' X kb_40 dX4_firstGreatestOn_5 ?_
      refine v_icmp_ge_n (tgt := 33) X dX4_firstGreatestOn_7 (by decide) (by omega) (by omega) (fun c_7 => ?_) (fun c_7 => ?_)
      · have hj : 40 = j := by omega
        subst hj
        refine v_iload_n X rfl dX4_firstGreatestOn_33 ?_
        subst hQ0
        exact v_iret X rfl (Nat.le_of_ble_eq_true rfl) (Nat.le_of_ble_eq_true rfl) dX4_firstGreatestOn_34 ⟨rfl, rfl⟩
      · refine v_aload_n X rfl dX4_firstGreatestOn_10 ?_
        refine v_iload_n X rfl dX4_firstGreatestOn_11 ?_
        refine v_iload_n X rfl dX4_firstGreatestOn_12 ?_
        refine v_callV (ci := 5) X mv_X4_23 (c_X4_heightAt l γ w g k hk j b (by omega) (by omega)) rfl rfl (rd_Track γ _ _ hk) rfl ⟨Nat.le_of_ble_eq_true rfl, Nat.le_of_ble_eq_true rfl, Nat.le_of_ble_eq_true rfl, Nat.le_of_ble_eq_true rfl⟩ (Nat.le_of_ble_eq_true rfl) rfl dX4_firstGreatestOn_13 rfl (det_i ?_)
        refine v_aload_n X rfl dX4_firstGreatestOn_16 ?_
        refine v_iload_n X rfl dX4_firstGreatestOn_17 ?_
        refine v_iload_n X rfl dX4_firstGreatestOn_18 ?_
        refine v_callV (ci := 5) X mv_X4_23 (c_X4_heightAt l γ w g k hk ((s_high g b j)) b (by omega) (by omega)) rfl rfl (rd_Track γ _ _ hk) rfl ⟨Nat.le_of_ble_eq_true rfl, Nat.le_of_ble_eq_true rfl, Nat.le_of_ble_eq_true rfl, Nat.le_of_ble_eq_true rfl⟩ (Nat.le_of_ble_eq_true rfl) rfl dX4_firstGreatestOn_19 rfl (det_i ?_)
        refine v_icmp_le (tgt := 27) X dX4_firstGreatestOn_22 (by decide) (fun q1 => ?_) (fun q1 => ?_)
        · have hs1 := s_highP (M := g) (s := b) (n := j) q1
          refine v_iinc' X rfl rfl (nI_inc _) dX4_firstGreatestOn_27 ?_
          refine v_goto (tgt := 4) X dX4_firstGreatestOn_30 (by decide) ?_
          have hy := ih (j + 1) ⟨by omega, by omega, by omega⟩
          rw [hs1] at hy
          exact (hy)
        · have hs1 := s_highN (M := g) (s := b) (n := j) q1
          refine v_iload_n X rfl dX4_firstGreatestOn_25 ?_
          refine v_istore_n X (Nat.le_of_ble_eq_true rfl) rfl dX4_firstGreatestOn_26 ?_
          refine v_iinc' X rfl rfl (nI_inc _) dX4_firstGreatestOn_27 ?_
          refine v_goto (tgt := 4) X dX4_firstGreatestOn_30 (by decide) ?_
          have hy := ih (j + 1) ⟨by omega, by omega, by omega⟩
          rw [hs1] at hy
          exact (hy)
  have hy := lp4 40 1 ⟨by omega, by omega, by omega⟩
  rw [s_high1] at hy
  exact (hy)
set_option maxHeartbeats 4000000 in
set_option maxRecDepth 100000 in
theorem c_X4_greatestOn (l : Launch) (γ : Gm) (w : Wd) (g : Nat → Int32) (k : Nat) (hk : k < 8) (b : Nat) (hb : b < 3) : Cr l γ yX4_greatestOn cX4_greatestOn 2 (some .int) 3 66 0 0 [.ref (γ.1 + so k + 2), .int (nI b)] (rdw γ (wset w k g)) (Det (some (.int (g (3 * s_high g b 40 + b)))) (rdw γ (wset w k (g)))) := by
  have hh := s_high_lt g b 40 (by decide)
  refine Cr_of [some (.ref (γ.1 + so k + 2)), some (.int (nI b))] (by decide +kernel) (Nat.le_of_ble_eq_true rfl) rfl ?_
  intro p e s m args below meth c X
  refine v_q0 (fun Q0 hQ0 => ?_)
  refine v_aload_n X rfl dX4_greatestOn_0 ?_
  refine v_aload_n X rfl dX4_greatestOn_1 ?_
  refine v_iload_n X rfl dX4_greatestOn_2 ?_
  refine v_callV (ci := 5) X mv_X4_27 (c_X4_firstGreatestOn l γ w g k hk b (by omega)) rfl rfl (rd_Track γ _ _ hk) rfl ⟨Nat.le_of_ble_eq_true rfl, Nat.le_of_ble_eq_true rfl, Nat.le_of_ble_eq_true rfl, Nat.le_of_ble_eq_true rfl⟩ (Nat.le_of_ble_eq_true rfl) rfl dX4_greatestOn_3 rfl (det_i ?_)
  refine v_iload_n X rfl dX4_greatestOn_6 ?_
  refine v_callV (ci := 5) X mv_X4_23 (c_X4_heightAt l γ w g k hk ((s_high g b 40)) b (by omega) (by omega)) rfl rfl (rd_Track γ _ _ hk) rfl ⟨Nat.le_of_ble_eq_true rfl, Nat.le_of_ble_eq_true rfl, Nat.le_of_ble_eq_true rfl, Nat.le_of_ble_eq_true rfl⟩ (Nat.le_of_ble_eq_true rfl) rfl dX4_greatestOn_7 rfl (det_i ?_)
  subst hQ0
  exact v_iret X rfl (Nat.le_of_ble_eq_true rfl) (Nat.le_of_ble_eq_true rfl) dX4_greatestOn_10 ⟨rfl, rfl⟩
set_option maxHeartbeats 4000000 in
set_option maxRecDepth 100000 in
theorem c_X4_cellsReaching (l : Launch) (γ : Gm) (w : Wd) (g : Nat → Int32) (k : Nat) (hk : k < 8) (b : Nat) (hb : b < 3) : Cr l γ yX4_cellsReaching cX4_cellsReaching 5 (some .int) 2 43 0 0 [.ref (γ.1 + so k + 2), .int (g 232), .int (nI b)] (rdw γ (wset w k g)) (Det (some (.int (nI (s_all g b 40)))) (rdw γ (wset w k (g)))) := by
  refine Cr_of [some (.ref (γ.1 + so k + 2)), some (.int (g 232)), some (.int (nI b)), none, none] (by decide +kernel) (Nat.le_of_ble_eq_true rfl) rfl ?_
  intro p e s m args below meth c X
  refine v_q0 (fun Q0 hQ0 => ?_)
  refine v_iconst' X kc_0 dX4_cellsReaching_0 ?_
  refine v_istore_n X (Nat.le_of_ble_eq_true rfl) rfl dX4_cellsReaching_1 ?_
  refine v_iconst' X kc_0 dX4_cellsReaching_2 ?_
  refine v_istore X (Nat.le_of_ble_eq_true rfl) rfl dX4_cellsReaching_3 ?_
  have lp5 : ∀ (n : Nat) (j : Nat), j ≤ 40 ∧ 41 ≤ j + n → V p l e { frames := 2, cells := 0, slots := 0, locals := 43 } s m args below meth c γ Q0 (rdw γ (wset w k g)) 0 0 5 [some (.ref (γ.1 + so k + 2)), some (.int (g 232)), some (.int (nI b)), some (.int (nI (s_all g b j))), some (.int (nI j))] [] := by
    intro n
    induction n with
    | zero =>
      intro j hbd
      exact absurd hbd (by omega)
    | succ n ih =>
      intro j hbd
      refine v_iload X rfl dX4_cellsReaching_5 ?_
      refine v_bipush' X kb_40 dX4_cellsReaching_7 ?_
      refine v_icmp_ge_n (tgt := 32) X dX4_cellsReaching_9 (by decide) (by omega) (by omega) (fun c_7 => ?_) (fun c_7 => ?_)
      · have hj : 40 = j := by omega
        subst hj
        refine v_iload_n X rfl dX4_cellsReaching_32 ?_
        subst hQ0
        exact v_iret X rfl (Nat.le_of_ble_eq_true rfl) (Nat.le_of_ble_eq_true rfl) dX4_cellsReaching_33 ⟨rfl, rfl⟩
      · refine v_aload_n X rfl dX4_cellsReaching_12 ?_
        refine v_iload X rfl dX4_cellsReaching_13 ?_
        refine v_iload_n X rfl dX4_cellsReaching_15 ?_
        refine v_callV (ci := 5) X mv_X4_23 (c_X4_heightAt l γ w g k hk j b (by omega) (by omega)) rfl rfl (rd_Track γ _ _ hk) rfl ⟨Nat.le_of_ble_eq_true rfl, Nat.le_of_ble_eq_true rfl, Nat.le_of_ble_eq_true rfl, Nat.le_of_ble_eq_true rfl⟩ (Nat.le_of_ble_eq_true rfl) rfl dX4_cellsReaching_16 rfl (det_i ?_)
        refine v_iload_n X rfl dX4_cellsReaching_19 ?_
        refine v_icmp_lt (tgt := 26) X dX4_cellsReaching_20 (by decide) (fun q1 => ?_) (fun q1 => ?_)
        · have hs1 := s_allP (M := g) (s := b) (n := j) q1
          refine v_iinc' X rfl rfl (nI_inc _) dX4_cellsReaching_26 ?_
          refine v_goto (tgt := 5) X dX4_cellsReaching_29 (by decide) ?_
          have hy := ih (j + 1) ⟨by omega, by omega⟩
          rw [hs1] at hy
          exact (hy)
        · have hs1 := s_allN (M := g) (s := b) (n := j) q1
          refine v_iinc' X rfl rfl (nI_inc _) dX4_cellsReaching_23 ?_
          refine v_iinc' X rfl rfl (nI_inc _) dX4_cellsReaching_26 ?_
          refine v_goto (tgt := 5) X dX4_cellsReaching_29 (by decide) ?_
          have hy := ih (j + 1) ⟨by omega, by omega⟩
          rw [hs1] at hy
          exact (hy)
  exact (lp5 41 0 ⟨by omega, by omega⟩)
set_option maxHeartbeats 4000000 in
set_option maxRecDepth 100000 in
theorem c_X4_longestRowReaching (l : Launch) (γ : Gm) (w : Wd) (g : Nat → Int32) (k : Nat) (hk : k < 8) (b : Nat) (hb : b < 3) : Cr l γ yX4_longestRowReaching cX4_longestRowReaching 6 (some .int) 2 43 0 0 [.ref (γ.1 + so k + 2), .int (g 232), .int (nI b)] (rdw γ (wset w k g)) (Det (some (.int (nI (s_most g b 40)))) (rdw γ (wset w k (g)))) := by
  refine Cr_of [some (.ref (γ.1 + so k + 2)), some (.int (g 232)), some (.int (nI b)), none, none, none] (by decide +kernel) (Nat.le_of_ble_eq_true rfl) rfl ?_
  intro p e s m args below meth c X
  refine v_q0 (fun Q0 hQ0 => ?_)
  refine v_iconst' X kc_0 dX4_longestRowReaching_0 ?_
  refine v_istore_n X (Nat.le_of_ble_eq_true rfl) rfl dX4_longestRowReaching_1 ?_
  refine v_iconst' X kc_0 dX4_longestRowReaching_2 ?_
  refine v_istore X (Nat.le_of_ble_eq_true rfl) rfl dX4_longestRowReaching_3 ?_
  refine v_iconst' X kc_0 dX4_longestRowReaching_5 ?_
  refine v_istore X (Nat.le_of_ble_eq_true rfl) rfl dX4_longestRowReaching_6 ?_
  have lp8 : ∀ (n : Nat) (j : Nat), j ≤ 40 ∧ 41 ≤ j + n → V p l e { frames := 2, cells := 0, slots := 0, locals := 43 } s m args below meth c γ Q0 (rdw γ (wset w k g)) 0 0 8 [some (.ref (γ.1 + so k + 2)), some (.int (g 232)), some (.int (nI b)), some (.int (nI (s_most g b j))), some (.int (nI (s_now g b j))), some (.int (nI j))] [] := by
    intro n
    induction n with
    | zero =>
      intro j hbd
      exact absurd hbd (by omega)
    | succ n ih =>
      intro j hbd
      have h1 := s_now_le g b j
      have h2 := s_most_le g b j
      refine v_iload X rfl dX4_longestRowReaching_8 ?_
      refine v_bipush' X kb_40 dX4_longestRowReaching_10 ?_
      refine v_icmp_ge_n (tgt := 49) X dX4_longestRowReaching_12 (by decide) (by omega) (by omega) (fun c_7 => ?_) (fun c_7 => ?_)
      · have hj : 40 = j := by omega
        subst hj
        refine v_iload_n X rfl dX4_longestRowReaching_49 ?_
        subst hQ0
        exact v_iret X rfl (Nat.le_of_ble_eq_true rfl) (Nat.le_of_ble_eq_true rfl) dX4_longestRowReaching_50 ⟨rfl, rfl⟩
      · refine v_aload_n X rfl dX4_longestRowReaching_15 ?_
        refine v_iload X rfl dX4_longestRowReaching_16 ?_
        refine v_iload_n X rfl dX4_longestRowReaching_18 ?_
        refine v_callV (ci := 5) X mv_X4_23 (c_X4_heightAt l γ w g k hk j b (by omega) (by omega)) rfl rfl (rd_Track γ _ _ hk) rfl ⟨Nat.le_of_ble_eq_true rfl, Nat.le_of_ble_eq_true rfl, Nat.le_of_ble_eq_true rfl, Nat.le_of_ble_eq_true rfl⟩ (Nat.le_of_ble_eq_true rfl) rfl dX4_longestRowReaching_19 rfl (det_i ?_)
        refine v_iload_n X rfl dX4_longestRowReaching_22 ?_
        refine v_icmp_lt (tgt := 33) X dX4_longestRowReaching_23 (by decide) (fun q1 => ?_) (fun q1 => ?_)
        · have hs2 := s_nowP (M := g) (s := b) (n := j) q1
          refine v_iconst' X kc_0 dX4_longestRowReaching_33 ?_
          refine v_istore X (Nat.le_of_ble_eq_true rfl) rfl dX4_longestRowReaching_34 ?_
          refine v_iload_n X rfl dX4_longestRowReaching_36 ?_
          refine v_iload X rfl dX4_longestRowReaching_37 ?_
          refine v_mmax X mm_X4_31 (Nat.le_of_ble_eq_true rfl) (Nat.le_of_ble_eq_true rfl) (Nat.le_of_ble_eq_true rfl) (Nat.le_of_ble_eq_true rfl) rfl dX4_longestRowReaching_39 ?_
          rw [maxN (by omega) (by omega)]
          refine v_istore_n X (Nat.le_of_ble_eq_true rfl) rfl dX4_longestRowReaching_42 ?_
          refine v_iinc' X rfl rfl (nI_inc _) dX4_longestRowReaching_43 ?_
          refine v_goto (tgt := 8) X dX4_longestRowReaching_46 (by decide) ?_
          have hy := ih (j + 1) ⟨by omega, by omega⟩
          rw [show s_most g b (j + 1) = (if s_now g b (j + 1) ≤ s_most g b j then s_most g b j else s_now g b (j + 1)) from rfl, hs2] at hy
          exact (hy)
        · have hs2 := s_nowN (M := g) (s := b) (n := j) q1
          refine v_iload X rfl dX4_longestRowReaching_26 ?_
          refine v_iconst' X kc_1 dX4_longestRowReaching_28 ?_
          refine v_iadd' X (nI_add _ _) dX4_longestRowReaching_29 ?_
          refine v_goto (tgt := 34) X dX4_longestRowReaching_30 (by decide) ?_
          refine v_istore X (Nat.le_of_ble_eq_true rfl) rfl dX4_longestRowReaching_34 ?_
          refine v_iload_n X rfl dX4_longestRowReaching_36 ?_
          refine v_iload X rfl dX4_longestRowReaching_37 ?_
          refine v_mmax X mm_X4_31 (Nat.le_of_ble_eq_true rfl) (Nat.le_of_ble_eq_true rfl) (Nat.le_of_ble_eq_true rfl) (Nat.le_of_ble_eq_true rfl) rfl dX4_longestRowReaching_39 ?_
          rw [maxN (by omega) (by omega)]
          refine v_istore_n X (Nat.le_of_ble_eq_true rfl) rfl dX4_longestRowReaching_42 ?_
          refine v_iinc' X rfl rfl (nI_inc _) dX4_longestRowReaching_43 ?_
          refine v_goto (tgt := 8) X dX4_longestRowReaching_46 (by decide) ?_
          have hy := ih (j + 1) ⟨by omega, by omega⟩
          rw [show s_most g b (j + 1) = (if s_now g b (j + 1) ≤ s_most g b j then s_most g b j else s_now g b (j + 1)) from rfl, hs2] at hy
          exact (hy)
  exact (lp8 41 0 ⟨by omega, by omega⟩)
set_option maxHeartbeats 4000000 in
set_option maxRecDepth 100000 in
theorem c_X4_steepestOn (l : Launch) (γ : Gm) (w : Wd) (g : Nat → Int32) (k : Nat) (hk : k < 8) (b : Nat) (hb : b < 3) : Cr l γ yX4_steepestOn cX4_steepestOn 5 (some .int) 2 43 0 0 [.ref (γ.1 + so k + 2), .int (nI b)] (rdw γ (wset w k g)) (Det (some (.int (s_steep g b 39))) (rdw γ (wset w k (g)))) := by
  refine Cr_of [some (.ref (γ.1 + so k + 2)), some (.int (nI b)), none, none, none] (by decide +kernel) (Nat.le_of_ble_eq_true rfl) rfl ?_
  intro p e s m args below meth c X
  refine v_q0 (fun Q0 hQ0 => ?_)
  refine v_iconst' X kc_0 dX4_steepestOn_0 ?_
  refine v_istore_n X (Nat.le_of_ble_eq_true rfl) rfl dX4_steepestOn_1 ?_
  refine v_iconst' X kc_0 dX4_steepestOn_2 ?_
  refine v_istore_n X (Nat.le_of_ble_eq_true rfl) rfl dX4_steepestOn_3 ?_
  have lp4 : ∀ (n : Nat) (j : Nat), j ≤ 39 ∧ 40 ≤ j + n → V p l e { frames := 2, cells := 0, slots := 0, locals := 43 } s m args below meth c γ Q0 (rdw γ (wset w k g)) 0 0 4 [some (.ref (γ.1 + so k + 2)), some (.int (nI b)), some (.int (s_steep g b j)), some (.int (nI j)), none] [] := by
    intro n
    induction n with
    | zero =>
      intro j hbd
      exact absurd hbd (by omega)
    | succ n ih =>
      intro j hbd
      refine v_iload_n X rfl dX4_steepestOn_4 ?_
      refine v_iconst' X kc_1 dX4_steepestOn_5 ?_
      refine v_iadd' X (nI_add _ _) dX4_steepestOn_6 ?_
      refine v_bipush' X kb_40 dX4_steepestOn_7 ?_
      refine v_icmp_ge_n (tgt := 45) X dX4_steepestOn_9 (by decide) (by omega) (by omega) (fun c_7 => ?_) (fun c_7 => ?_)
      · have hj : 39 = j := by omega
        subst hj
        refine v_iload_n X rfl dX4_steepestOn_45 ?_
        subst hQ0
        exact v_iret X rfl (Nat.le_of_ble_eq_true rfl) (Nat.le_of_ble_eq_true rfl) dX4_steepestOn_46 ⟨rfl, rfl⟩
      · refine v_aload_n X rfl dX4_steepestOn_12 ?_
        refine v_iload_n X rfl dX4_steepestOn_13 ?_
        refine v_iload_n X rfl dX4_steepestOn_14 ?_
        refine v_callV (ci := 5) X mv_X4_23 (c_X4_heightAt l γ w g k hk j b (by omega) (by omega)) rfl rfl (rd_Track γ _ _ hk) rfl ⟨Nat.le_of_ble_eq_true rfl, Nat.le_of_ble_eq_true rfl, Nat.le_of_ble_eq_true rfl, Nat.le_of_ble_eq_true rfl⟩ (Nat.le_of_ble_eq_true rfl) rfl dX4_steepestOn_15 rfl (det_i ?_)
        refine v_aload_n X rfl dX4_steepestOn_18 ?_
        refine v_iload_n X rfl dX4_steepestOn_19 ?_
        refine v_iconst' X kc_1 dX4_steepestOn_20 ?_
        refine v_iadd' X (nI_add _ _) dX4_steepestOn_21 ?_
        refine v_iload_n X rfl dX4_steepestOn_22 ?_
        refine v_callV (ci := 5) X mv_X4_23 (c_X4_heightAt l γ w g k hk ((j + 1)) b (by omega) (by omega)) rfl rfl (rd_Track γ _ _ hk) rfl ⟨Nat.le_of_ble_eq_true rfl, Nat.le_of_ble_eq_true rfl, Nat.le_of_ble_eq_true rfl, Nat.le_of_ble_eq_true rfl⟩ (Nat.le_of_ble_eq_true rfl) rfl dX4_steepestOn_23 rfl (det_i ?_)
        refine v_isub X dX4_steepestOn_26 ?_
        rw [show g (3 * j + b) - g (3 * (j + 1) + b) = q_by g j b from rfl]
        refine v_istore X (Nat.le_of_ble_eq_true rfl) rfl dX4_steepestOn_27 ?_
        refine v_iload_n X rfl dX4_steepestOn_29 ?_
        refine v_iload X rfl dX4_steepestOn_30 ?_
        refine v_mabs X mm_X4_36 (Nat.le_of_ble_eq_true rfl) (Nat.le_of_ble_eq_true rfl) (Nat.le_of_ble_eq_true rfl) (Nat.le_of_ble_eq_true rfl) rfl dX4_steepestOn_32 ?_
        rw [s_abs0]
        refine v_mmax X mm_X4_31 (Nat.le_of_ble_eq_true rfl) (Nat.le_of_ble_eq_true rfl) (Nat.le_of_ble_eq_true rfl) (Nat.le_of_ble_eq_true rfl) rfl dX4_steepestOn_35 ?_
        rw [max_le]
        refine v_istore_n X (Nat.le_of_ble_eq_true rfl) rfl dX4_steepestOn_38 ?_
        refine v_iinc' X rfl rfl (nI_inc _) dX4_steepestOn_39 ?_
        refine v_goto (tgt := 4) X dX4_steepestOn_42 (by decide) ?_
        have hy := ih (j + 1) ⟨by omega, by omega⟩
        rw [show s_steep g b (j + 1) = (if s_abs (q_by g j b) ≤ s_steep g b j then s_steep g b j else s_abs (q_by g j b)) from rfl] at hy
        exact v_Ln (hy) ⟨Or.inr rfl, Or.inr rfl, Or.inr rfl, Or.inr rfl, Or.inl rfl, trivial⟩
  exact v_Ln (lp4 40 0 ⟨by omega, by omega⟩) ⟨Or.inr rfl, Or.inr rfl, Or.inr rfl, Or.inr rfl, Or.inl rfl, trivial⟩
