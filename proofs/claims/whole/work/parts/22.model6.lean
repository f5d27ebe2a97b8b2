set_option maxHeartbeats 4000000 in
set_option maxRecDepth 100000 in
theorem c_X7_next (l : Launch) (γ : Gm) (W : Wd) (S : Nat → Int32) (pp : Rd) (n : Nat) (hn : S 1 = nI n) (h60 : n ≤ 60) (hp : pp.1 ≤ 1000) : Cr l γ yX7_next cX7_next 1 (some .int) 0 0 0 0 [.ref (γ.1 + 86)] (rdw γ (wset W 15 (st S pp))) (Det (some (.int (t_nx (W.1 13) n pp.1))) (rdw γ (wset W 15 (st S (pp))))) := by
  refine Cr_of [some (.ref (γ.1 + 86))] (by decide +kernel) (Nat.le_of_ble_eq_true rfl) rfl ?_
  intro p e s m args below meth c X
  refine v_q0 (fun Q0 hQ0 => ?_)
  refine v_aload_n X rfl dX7_next_0 ?_
  refine v_getf X (v := .int ((st S pp) 3)) fd_X7_44 (rd_Model γ _) rfl dX7_next_1 ?_
  rw [st_3]
  refine v_aload_n X rfl dX7_next_4 ?_
  refine v_getf X (v := .int ((st S pp) 1)) fd_X7_41 (rd_Model γ _) rfl dX7_next_5 ?_
  rw [st_o S _ (by decide : (1 : Nat) ≠ 3) (by decide), hn]
  refine v_icmp_ge_n (tgt := 23) X dX7_next_8 (by decide) (by omega) (by omega) (fun q1 => ?_) (fun q1 => ?_)
  · refine v_iconst' X kc_m1 dX7_next_23 ?_
    subst hQ0
    exact v_iret X rfl (Nat.le_of_ble_eq_true rfl) (Nat.le_of_ble_eq_true rfl) dX7_next_24 ⟨so_some (by unfold t_nx; first | rw [if_pos (by omega)] | rw [if_neg (by omega)]), rfl⟩
  · refine v_aload_n X rfl dX7_next_11 ?_
    refine v_getf X fd_X7_19 (rd_Model γ _) rfl dX7_next_12 ?_
    refine v_aload_n X rfl dX7_next_15 ?_
    refine v_getf X (v := .int ((st S pp) 3)) fd_X7_44 (rd_Model γ _) rfl dX7_next_16 ?_
    rw [st_3]
    refine v_iald' X (v := ((W.1 13) (pp.1))) (rd_MText γ _) (pp.1) rfl (by omega) (by decide) (vw_at (by omega)) dX7_next_19 ?_
    refine v_goto (tgt := 24) X dX7_next_20 (by decide) ?_
    subst hQ0
    exact v_iret X rfl (Nat.le_of_ble_eq_true rfl) (Nat.le_of_ble_eq_true rfl) dX7_next_24 ⟨so_some (by unfold t_nx; first | rw [if_pos (by omega)] | rw [if_neg (by omega)]), rfl⟩
set_option maxHeartbeats 4000000 in
set_option maxRecDepth 100000 in
theorem c_X7_isDigit (l : Launch) (γ : Gm) (W : Wd) (S : Nat → Int32) (pp : Rd) (n : Nat) (hn : S 1 = nI n) (h60 : n ≤ 60) (hp : pp.1 ≤ 1000) : Cr l γ yX7_isDigit cX7_isDigit 1 (some .boolean) 1 22 0 0 [.ref (γ.1 + 86)] (rdw γ (wset W 15 (st S pp))) (Det (some (.int (bi (t_dg (W.1 13) n pp.1)))) (rdw γ (wset W 15 (st S (pp))))) := by
  refine Cr_of [some (.ref (γ.1 + 86))] (by decide +kernel) (Nat.le_of_ble_eq_true rfl) rfl ?_
  intro p e s m args below meth c X
  refine v_q0 (fun Q0 hQ0 => ?_)
  refine v_aload_n X rfl dX7_isDigit_0 ?_
  refine v_callV (ci := 8) X mv_X7_47 (c_X7_next l γ _ S pp n hn h60 (by first | exact hp | omega | (dsimp only; omega))) rfl rfl (rd_Model γ _) rfl ⟨Nat.le_of_ble_eq_true rfl, Nat.le_of_ble_eq_true rfl, Nat.le_of_ble_eq_true rfl, Nat.le_of_ble_eq_true rfl⟩ (Nat.le_of_ble_eq_true rfl) rfl dX7_isDigit_1 rfl (det_i ?_)
  try simp (disch := decide) only [ws_11_10, ws_12_10, ws_12_11, ws_13_10, ws_13_11, ws_13_12, ws_14_10, ws_14_11, ws_14_12, ws_14_13, ws_15_10, ws_15_11, ws_15_12, ws_15_13, ws_15_14, wset_wset, ws_same, ws_ne, wh_ws]
  refine v_bipush' X kb_48 dX7_isDigit_4 ?_
  refine v_bipush' X kb_57 dX7_isDigit_6 ?_
  refine v_callS X ms_X7_29 (c_X7_in l γ _ _ _ _) rfl ⟨Nat.le_of_ble_eq_true rfl, Nat.le_of_ble_eq_true rfl, Nat.le_of_ble_eq_true rfl, Nat.le_of_ble_eq_true rfl⟩ (Nat.le_of_ble_eq_true rfl) rfl dX7_isDigit_8 rfl (det_i ?_)
  subst hQ0
  exact v_zret X rfl bi_nar (Nat.le_of_ble_eq_true rfl) (Nat.le_of_ble_eq_true rfl) dX7_isDigit_11 ⟨rfl, rfl⟩
set_option maxHeartbeats 4000000 in
set_option maxRecDepth 100000 in
theorem c_X7_blanks (l : Launch) (γ : Gm) (W : Wd) (S : Nat → Int32) (pp : Rd) (n : Nat) (hn : S 1 = nI n) (h60 : n ≤ 60) (hp : pp.1 ≤ 1000) : Cr l γ yX7_blanks cX7_blanks 1 none 1 20 0 0 [.ref (γ.1 + 86)] (rdw γ (wset W 15 (st S pp))) (Det none (rdw γ (wset W 15 (st S ((t_bl (W.1 13) n pp.1, pp.2)))))) := by
  refine Cr_of [some (.ref (γ.1 + 86))] (by decide +kernel) (Nat.le_of_ble_eq_true rfl) rfl ?_
  intro p e s m args below meth c X
  refine v_q0 (fun Q0 hQ0 => ?_)
  have lp0 : ∀ (m0 : Nat) (a : Nat), a ≤ 1000 ∧ n - a + 1 ≤ m0 → t_bl (W.1 13) n a = t_bl (W.1 13) n pp.1 → V p l e { frames := 1, cells := 0, slots := 0, locals := 20 } s m args below meth c γ Q0 (rdw γ (wset W 15 (st S (a, pp.2)))) 0 0 0 [some (.ref (γ.1 + 86))] [] := by
    intro m0
    induction m0 with
    | zero =>
      intro a hbd
      exact absurd hbd (by omega)
    | succ m0 ih =>
      intro a hbd hF
      refine v_aload_n X rfl dX7_blanks_0 ?_
      refine v_callV (ci := 8) X mv_X7_47 (c_X7_next l γ _ S (a, pp.2) n hn h60 (by dsimp only; omega)) rfl rfl (rd_Model γ _) rfl ⟨Nat.le_of_ble_eq_true rfl, Nat.le_of_ble_eq_true rfl, Nat.le_of_ble_eq_true rfl, Nat.le_of_ble_eq_true rfl⟩ (Nat.le_of_ble_eq_true rfl) rfl dX7_blanks_1 rfl (det_i ?_)
      try simp (disch := decide) only [ws_11_10, ws_12_10, ws_12_11, ws_13_10, ws_13_11, ws_13_12, ws_14_10, ws_14_11, ws_14_12, ws_14_13, ws_15_10, ws_15_11, ws_15_12, ws_15_13, ws_15_14, wset_wset, ws_same, ws_ne, wh_ws]
      refine v_bipush' X kb_32 dX7_blanks_4 ?_
      refine v_icmp_ne (tgt := 22) X dX7_blanks_6 (by decide) (fun q1 => ?_) (fun q1 => ?_)
      · subst hQ0
        exact v_vret X rfl (Nat.le_of_ble_eq_true rfl) (Nat.le_of_ble_eq_true rfl) dX7_blanks_22 ⟨rfl, by rw [← hF, t_bl_f q1]⟩
      · refine v_aload_n X rfl dX7_blanks_9 ?_
        refine v_dup X rfl dX7_blanks_10 ?_
        refine v_getf X (v := .int ((st S (a, pp.2)) 3)) fd_X7_44 (rd_Model γ _) rfl dX7_blanks_11 ?_
        rw [st_3]
        refine v_iconst' X kc_1 dX7_blanks_14 ?_
        refine v_iadd' X (nI_add _ _) dX7_blanks_15 ?_
        refine v_putf X fp_X7_44 (rd_Model γ _) rfl rfl (Nat.le_of_ble_eq_true rfl) dX7_blanks_16 ?_
        refine v_eqh (uq_at γ _ _) ?_
        try simp (disch := decide) only [ws_11_10, ws_12_10, ws_12_11, ws_13_10, ws_13_11, ws_13_12, ws_14_10, ws_14_11, ws_14_12, ws_14_13, ws_15_10, ws_15_11, ws_15_12, ws_15_13, ws_15_14, wset_wset, ws_same, ws_ne, wh_ws]
        refine v_goto (tgt := 0) X dX7_blanks_19 (by decide) ?_
        rw [st_u3]
        have hla : a < n := Nat.not_le.mp fun z => by rw [t_nx_ge z] at q1; exact absurd q1 (by decide)
        have hy := ih (a + 1) ⟨by omega, by omega⟩ ((t_bl_t q1).trans hF)
        exact (hy)
  exact (lp0 (n - pp.1 + 1) pp.1 ⟨hp, by omega⟩ rfl)
set_option maxHeartbeats 4000000 in
set_option maxRecDepth 100000 in
theorem c_X7_fails (l : Launch) (γ : Gm) (W : Wd) (S : Nat → Int32) (pp : Rd) (n : Nat) (hn : S 1 = nI n) (h60 : n ≤ 60) (hp : pp.1 ≤ 1000) (x : Int32) : Cr l γ yX7_fails cX7_fails 2 none 0 0 0 0 [.ref (γ.1 + 86), .int x] (rdw γ (wset W 15 (st S pp))) (Det none (rdw γ (wset W 15 (st S (r_fail pp x))))) := by
  refine Cr_of [some (.ref (γ.1 + 86)), some (.int x)] (by decide +kernel) (Nat.le_of_ble_eq_true rfl) rfl ?_
  intro p e s m args below meth c X
  refine v_q0 (fun Q0 hQ0 => ?_)
  refine v_aload_n X rfl dX7_fails_0 ?_
  refine v_aload_n X rfl dX7_fails_1 ?_
  refine v_getf X (v := .int ((st S pp) 4)) fd_X7_51 (rd_Model γ _) rfl dX7_fails_2 ?_
  rw [st_4]
  refine v_sipush' X ks_m1001 dX7_fails_5 ?_
  refine v_icmp_ne (tgt := 15) X dX7_fails_8 (by decide) (fun q1 => ?_) (fun q1 => ?_)
  · refine v_aload_n X rfl dX7_fails_15 ?_
    refine v_getf X (v := .int ((st S pp) 4)) fd_X7_51 (rd_Model γ _) rfl dX7_fails_16 ?_
    rw [st_4]
    refine v_putf X fp_X7_51 (rd_Model γ _) rfl rfl (Nat.le_of_ble_eq_true rfl) dX7_fails_19 ?_
    refine v_eqh (uq_fault γ _ _) ?_
    try simp (disch := decide) only [ws_11_10, ws_12_10, ws_12_11, ws_13_10, ws_13_11, ws_13_12, ws_14_10, ws_14_11, ws_14_12, ws_14_13, ws_15_10, ws_15_11, ws_15_12, ws_15_13, ws_15_14, wset_wset, ws_same, ws_ne, wh_ws]
    subst hQ0
    exact v_vret X rfl (Nat.le_of_ble_eq_true rfl) (Nat.le_of_ble_eq_true rfl) dX7_fails_22 ⟨rfl, by rw [st_u4]; unfold r_fail; first | rw [if_pos q1] | rw [if_neg q1]⟩
  · refine v_iload_n X rfl dX7_fails_11 ?_
    refine v_goto (tgt := 19) X dX7_fails_12 (by decide) ?_
    refine v_putf X fp_X7_51 (rd_Model γ _) rfl rfl (Nat.le_of_ble_eq_true rfl) dX7_fails_19 ?_
    refine v_eqh (uq_fault γ _ _) ?_
    try simp (disch := decide) only [ws_11_10, ws_12_10, ws_12_11, ws_13_10, ws_13_11, ws_13_12, ws_14_10, ws_14_11, ws_14_12, ws_14_13, ws_15_10, ws_15_11, ws_15_12, ws_15_13, ws_15_14, wset_wset, ws_same, ws_ne, wh_ws]
    subst hQ0
    exact v_vret X rfl (Nat.le_of_ble_eq_true rfl) (Nat.le_of_ble_eq_true rfl) dX7_fails_22 ⟨rfl, by rw [st_u4]; unfold r_fail; first | rw [if_pos q1] | rw [if_neg q1]⟩
set_option maxHeartbeats 4000000 in
set_option maxRecDepth 100000 in
theorem c_X7_needs (l : Launch) (γ : Gm) (W : Wd) (S : Nat → Int32) (pp : Rd) (n : Nat) (hn : S 1 = nI n) (h60 : n ≤ 60) (hp : pp.1 ≤ 990) (b0 : Prop) [Decidable b0] : Cr l γ yX7_needs cX7_needs 2 none 2 40 0 0 [.ref (γ.1 + 86), .int (bi b0)] (rdw γ (wset W 15 (st S pp))) (Det none (rdw γ (wset W 15 (st S (r_needs (W.1 13) n pp b0))))) := by
  refine Cr_of [some (.ref (γ.1 + 86)), some (.int (bi b0))] (by decide +kernel) (Nat.le_of_ble_eq_true rfl) rfl ?_
  intro p e s m args below meth c X
  refine v_q0 (fun Q0 hQ0 => ?_)
  refine v_aload_n X rfl dX7_needs_0 ?_
  refine v_getf X (v := .int ((st S pp) 4)) fd_X7_51 (rd_Model γ _) rfl dX7_needs_1 ?_
  rw [st_4]
  refine v_sipush' X ks_m1001 dX7_needs_4 ?_
  refine v_icmp_ne (tgt := 31) X dX7_needs_7 (by decide) (fun q1 => ?_) (fun q1 => ?_)
  · have hE : r_needs (W.1 13) n pp b0 = r_fail pp (nI pp.1) := by unfold r_needs; rw [if_neg (fun z => q1 z.1)]
    refine v_aload_n X rfl dX7_needs_31 ?_
    refine v_aload_n X rfl dX7_needs_32 ?_
    refine v_getf X (v := .int ((st S pp) 3)) fd_X7_44 (rd_Model γ _) rfl dX7_needs_33 ?_
    rw [st_3]
    refine v_callV (ci := 8) X mv_X7_57 (c_X7_fails l γ _ S pp n hn h60 (by first | exact hp | omega | (dsimp only; omega)) _) rfl rfl (rd_Model γ _) rfl ⟨Nat.le_of_ble_eq_true rfl, Nat.le_of_ble_eq_true rfl, Nat.le_of_ble_eq_true rfl, Nat.le_of_ble_eq_true rfl⟩ (Nat.le_of_ble_eq_true rfl) rfl dX7_needs_36 rfl (det_v ?_)
    try simp (disch := decide) only [ws_11_10, ws_12_10, ws_12_11, ws_13_10, ws_13_11, ws_13_12, ws_14_10, ws_14_11, ws_14_12, ws_14_13, ws_15_10, ws_15_11, ws_15_12, ws_15_13, ws_15_14, wset_wset, ws_same, ws_ne, wh_ws]
    subst hQ0
    exact v_vret X rfl (Nat.le_of_ble_eq_true rfl) (Nat.le_of_ble_eq_true rfl) dX7_needs_39 ⟨rfl, by rw [hE]⟩
  · refine v_iload_n X rfl dX7_needs_10 ?_
    refine v_if_eq_b (tgt := 31) X dX7_needs_11 (by decide) (fun q2 => ?_) (fun q2 => ?_)
    · have hE : r_needs (W.1 13) n pp b0 = r_fail pp (nI pp.1) := by unfold r_needs; rw [if_neg (fun z => q2 z.2)]
      refine v_aload_n X rfl dX7_needs_31 ?_
      refine v_aload_n X rfl dX7_needs_32 ?_
      refine v_getf X (v := .int ((st S pp) 3)) fd_X7_44 (rd_Model γ _) rfl dX7_needs_33 ?_
      rw [st_3]
      refine v_callV (ci := 8) X mv_X7_57 (c_X7_fails l γ _ S pp n hn h60 (by first | exact hp | omega | (dsimp only; omega)) _) rfl rfl (rd_Model γ _) rfl ⟨Nat.le_of_ble_eq_true rfl, Nat.le_of_ble_eq_true rfl, Nat.le_of_ble_eq_true rfl, Nat.le_of_ble_eq_true rfl⟩ (Nat.le_of_ble_eq_true rfl) rfl dX7_needs_36 rfl (det_v ?_)
      try simp (disch := decide) only [ws_11_10, ws_12_10, ws_12_11, ws_13_10, ws_13_11, ws_13_12, ws_14_10, ws_14_11, ws_14_12, ws_14_13, ws_15_10, ws_15_11, ws_15_12, ws_15_13, ws_15_14, wset_wset, ws_same, ws_ne, wh_ws]
      subst hQ0
      exact v_vret X rfl (Nat.le_of_ble_eq_true rfl) (Nat.le_of_ble_eq_true rfl) dX7_needs_39 ⟨rfl, by rw [hE]⟩
    · have hE : r_needs (W.1 13) n pp b0 = (t_bl (W.1 13) n (pp.1 + 1), pp.2) := by unfold r_needs; rw [if_pos ⟨q1, q2⟩]
      refine v_aload_n X rfl dX7_needs_14 ?_
      refine v_dup X rfl dX7_needs_15 ?_
      refine v_getf X (v := .int ((st S pp) 3)) fd_X7_44 (rd_Model γ _) rfl dX7_needs_16 ?_
      rw [st_3]
      refine v_iconst' X kc_1 dX7_needs_19 ?_
      refine v_iadd' X (nI_add _ _) dX7_needs_20 ?_
      refine v_putf X fp_X7_44 (rd_Model γ _) rfl rfl (Nat.le_of_ble_eq_true rfl) dX7_needs_21 ?_
      refine v_eqh (uq_at γ _ _) ?_
      try simp (disch := decide) only [ws_11_10, ws_12_10, ws_12_11, ws_13_10, ws_13_11, ws_13_12, ws_14_10, ws_14_11, ws_14_12, ws_14_13, ws_15_10, ws_15_11, ws_15_12, ws_15_13, ws_15_14, wset_wset, ws_same, ws_ne, wh_ws]
      rw [st_u3]
      refine v_aload_n X rfl dX7_needs_24 ?_
      refine v_callV (ci := 8) X mv_X7_54 (c_X7_blanks l γ _ S (pp.1 + 1, pp.2) n hn h60 (by dsimp only; omega)) rfl rfl (rd_Model γ _) rfl ⟨Nat.le_of_ble_eq_true rfl, Nat.le_of_ble_eq_true rfl, Nat.le_of_ble_eq_true rfl, Nat.le_of_ble_eq_true rfl⟩ (Nat.le_of_ble_eq_true rfl) rfl dX7_needs_25 rfl (det_v ?_)
      try simp (disch := decide) only [ws_11_10, ws_12_10, ws_12_11, ws_13_10, ws_13_11, ws_13_12, ws_14_10, ws_14_11, ws_14_12, ws_14_13, ws_15_10, ws_15_11, ws_15_12, ws_15_13, ws_15_14, wset_wset, ws_same, ws_ne, wh_ws]
      try dsimp only
      refine v_goto (tgt := 39) X dX7_needs_28 (by decide) ?_
      subst hQ0
      exact v_vret X rfl (Nat.le_of_ble_eq_true rfl) (Nat.le_of_ble_eq_true rfl) dX7_needs_39 ⟨rfl, by rw [hE]⟩
set_option maxHeartbeats 4000000 in
set_option maxRecDepth 100000 in
theorem c_X7_digit (l : Launch) (γ : Gm) (W : Wd) (S : Nat → Int32) (pp : Rd) (n : Nat) (hn : S 1 = nI n) (h60 : n ≤ 60) (hp : pp.1 ≤ 980) (x z : Int32) : Cr l γ yX7_digit cX7_digit 4 (some .int) 3 61 0 0 [.ref (γ.1 + 86), .int x, .int z] (rdw γ (wset W 15 (st S pp))) (Det (some (.int (t_nx (W.1 13) n pp.1 - nI 48))) (rdw γ (wset W 15 (st S (r_needs (W.1 13) n pp (t_isD (W.1 13) n pp.1 x z)))))) := by
  refine Cr_of [some (.ref (γ.1 + 86)), some (.int x), some (.int z), none] (by decide +kernel) (Nat.le_of_ble_eq_true rfl) rfl ?_
  intro p e s m args below meth c X
  refine v_q0 (fun Q0 hQ0 => ?_)
  refine v_aload_n X rfl dX7_digit_0 ?_
  refine v_callV (ci := 8) X mv_X7_47 (c_X7_next l γ _ S pp n hn h60 (by omega)) rfl rfl (rd_Model γ _) rfl ⟨Nat.le_of_ble_eq_true rfl, Nat.le_of_ble_eq_true rfl, Nat.le_of_ble_eq_true rfl, Nat.le_of_ble_eq_true rfl⟩ (Nat.le_of_ble_eq_true rfl) rfl dX7_digit_1 rfl (det_i ?_)
  try simp (disch := decide) only [ws_11_10, ws_12_10, ws_12_11, ws_13_10, ws_13_11, ws_13_12, ws_14_10, ws_14_11, ws_14_12, ws_14_13, ws_15_10, ws_15_11, ws_15_12, ws_15_13, ws_15_14, wset_wset, ws_same, ws_ne, wh_ws]
  refine v_bipush' X kb_48 dX7_digit_4 ?_
  refine v_isub X dX7_digit_6 ?_
  refine v_istore_n X (Nat.le_of_ble_eq_true rfl) rfl dX7_digit_7 ?_
  refine v_aload_n X rfl dX7_digit_8 ?_
  refine v_iload_n X rfl dX7_digit_9 ?_
  refine v_iload_n X rfl dX7_digit_10 ?_
  refine v_iload_n X rfl dX7_digit_11 ?_
  refine v_callS X ms_X7_29 (c_X7_in l γ _ _ _ _) rfl ⟨Nat.le_of_ble_eq_true rfl, Nat.le_of_ble_eq_true rfl, Nat.le_of_ble_eq_true rfl, Nat.le_of_ble_eq_true rfl⟩ (Nat.le_of_ble_eq_true rfl) rfl dX7_digit_12 rfl (det_i ?_)
  refine v_callV (ci := 8) X mv_X7_60 (c_X7_needs l γ _ S pp n hn h60 (by omega) _) rfl rfl (rd_Model γ _) rfl ⟨Nat.le_of_ble_eq_true rfl, Nat.le_of_ble_eq_true rfl, Nat.le_of_ble_eq_true rfl, Nat.le_of_ble_eq_true rfl⟩ (Nat.le_of_ble_eq_true rfl) rfl dX7_digit_15 rfl (det_v ?_)
  try simp (disch := decide) only [ws_11_10, ws_12_10, ws_12_11, ws_13_10, ws_13_11, ws_13_12, ws_14_10, ws_14_11, ws_14_12, ws_14_13, ws_15_10, ws_15_11, ws_15_12, ws_15_13, ws_15_14, wset_wset, ws_same, ws_ne, wh_ws]
  refine v_iload_n X rfl dX7_digit_18 ?_
  subst hQ0
  exact v_iret X rfl (Nat.le_of_ble_eq_true rfl) (Nat.le_of_ble_eq_true rfl) dX7_digit_19 ⟨rfl, rfl⟩
set_option maxHeartbeats 4000000 in
set_option maxRecDepth 100000 in
theorem c_X7_doorAt (l : Launch) (γ : Gm) (W : Wd) (S : Nat → Int32) (pp : Rd) (n : Nat) (hn : S 1 = nI n) (h60 : n ≤ 60) (hp : pp.1 ≤ 980) : Cr l γ yX7_doorAt cX7_doorAt 2 (some .int) 3 61 0 0 [.ref (γ.1 + 86)] (rdw γ (wset W 15 (st S pp))) (Det (some (.int (t_lno (t_nx (W.1 13) n pp.1)))) (rdw γ (wset W 15 (st S (r_needs (W.1 13) n pp (t_isL (t_nx (W.1 13) n pp.1))))))) := by
  refine Cr_of [some (.ref (γ.1 + 86)), none] (by decide +kernel) (Nat.le_of_ble_eq_true rfl) rfl ?_
  intro p e s m args below meth c X
  refine v_q0 (fun Q0 hQ0 => ?_)
  refine v_aload_n X rfl dX7_doorAt_0 ?_
  refine v_callV (ci := 8) X mv_X7_47 (c_X7_next l γ _ S pp n hn h60 (by omega)) rfl rfl (rd_Model γ _) rfl ⟨Nat.le_of_ble_eq_true rfl, Nat.le_of_ble_eq_true rfl, Nat.le_of_ble_eq_true rfl, Nat.le_of_ble_eq_true rfl⟩ (Nat.le_of_ble_eq_true rfl) rfl dX7_doorAt_1 rfl (det_i ?_)
  try simp (disch := decide) only [ws_11_10, ws_12_10, ws_12_11, ws_13_10, ws_13_11, ws_13_12, ws_14_10, ws_14_11, ws_14_12, ws_14_13, ws_15_10, ws_15_11, ws_15_12, ws_15_13, ws_15_14, wset_wset, ws_same, ws_ne, wh_ws]
  refine v_istore_n X (Nat.le_of_ble_eq_true rfl) rfl dX7_doorAt_4 ?_
  refine v_aload_n X rfl dX7_doorAt_5 ?_
  refine v_iload_n X rfl dX7_doorAt_6 ?_
  refine v_bipush' X kb_108 dX7_doorAt_7 ?_
  have jn29 : ∀ (u : Int32), u = (bi (t_isL (t_nx (W.1 13) n pp.1))) → V p l e { frames := 3, cells := 0, slots := 0, locals := 61 } s m args below meth c γ Q0 (rdw γ (wset W 15 (st S pp))) 0 0 29 [some (.ref (γ.1 + 86)), some (.int (t_nx (W.1 13) n pp.1))] [.int u, .ref (γ.1 + 86)] := by
    intro u hu
    subst hu
    refine v_callV (ci := 8) X mv_X7_60 (c_X7_needs l γ _ S pp n hn h60 (by omega) _) rfl rfl (rd_Model γ _) rfl ⟨Nat.le_of_ble_eq_true rfl, Nat.le_of_ble_eq_true rfl, Nat.le_of_ble_eq_true rfl, Nat.le_of_ble_eq_true rfl⟩ (Nat.le_of_ble_eq_true rfl) rfl dX7_doorAt_29 rfl (det_v ?_)
    try simp (disch := decide) only [ws_11_10, ws_12_10, ws_12_11, ws_13_10, ws_13_11, ws_13_12, ws_14_10, ws_14_11, ws_14_12, ws_14_13, ws_15_10, ws_15_11, ws_15_12, ws_15_13, ws_15_14, wset_wset, ws_same, ws_ne, wh_ws]
    refine v_iload_n X rfl dX7_doorAt_32 ?_
    refine v_bipush' X kb_108 dX7_doorAt_33 ?_
    refine v_icmp_ne (tgt := 42) X dX7_doorAt_35 (by decide) (fun p1 => ?_) (fun p1 => ?_)
    · refine v_iload_n X rfl dX7_doorAt_42 ?_
      refine v_bipush' X kb_109 dX7_doorAt_43 ?_
      refine v_icmp_ne (tgt := 52) X dX7_doorAt_45 (by decide) (fun p2 => ?_) (fun p2 => ?_)
      · refine v_iconst' X kc_2 dX7_doorAt_52 ?_
        subst hQ0
        exact v_iret X rfl (Nat.le_of_ble_eq_true rfl) (Nat.le_of_ble_eq_true rfl) dX7_doorAt_53 ⟨so_some (by unfold t_lno; first | rw [if_pos p1] | rw [if_neg p1, if_pos p2] | rw [if_neg p1, if_neg p2]), rfl⟩
      · refine v_iconst' X kc_1 dX7_doorAt_48 ?_
        refine v_goto (tgt := 53) X dX7_doorAt_49 (by decide) ?_
        subst hQ0
        exact v_iret X rfl (Nat.le_of_ble_eq_true rfl) (Nat.le_of_ble_eq_true rfl) dX7_doorAt_53 ⟨so_some (by unfold t_lno; first | rw [if_pos p1] | rw [if_neg p1, if_pos p2] | rw [if_neg p1, if_neg p2]), rfl⟩
    · refine v_iconst' X kc_0 dX7_doorAt_38 ?_
      refine v_goto (tgt := 53) X dX7_doorAt_39 (by decide) ?_
      subst hQ0
      exact v_iret X rfl (Nat.le_of_ble_eq_true rfl) (Nat.le_of_ble_eq_true rfl) dX7_doorAt_53 ⟨so_some (by unfold t_lno; first | rw [if_pos p1] | rw [if_neg p1, if_pos p2] | rw [if_neg p1, if_neg p2]), rfl⟩
  refine v_icmp_eq (tgt := 24) X dX7_doorAt_9 (by decide) (fun q1 => ?_) (fun q1 => ?_)
  · refine v_iconst' X kc_1 dX7_doorAt_24 ?_
    refine v_goto (tgt := 29) X dX7_doorAt_25 (by decide) ?_
    exact (jn29 _ (by first | exact (bi_t (Or.inl q1)) | exact (bi_t (Or.inr (Or.inl q2))) | exact (bi_t (Or.inr (Or.inr q3))) | exact (bi_f (show ¬ t_isL (t_nx (W.1 13) n pp.1) from fun z => z.elim q1 (fun z => z.elim q2 q3)))))
  · refine v_iload_n X rfl dX7_doorAt_12 ?_
    refine v_bipush' X kb_109 dX7_doorAt_13 ?_
    refine v_icmp_eq (tgt := 24) X dX7_doorAt_15 (by decide) (fun q2 => ?_) (fun q2 => ?_)
    · refine v_iconst' X kc_1 dX7_doorAt_24 ?_
      refine v_goto (tgt := 29) X dX7_doorAt_25 (by decide) ?_
      exact (jn29 _ (by first | exact (bi_t (Or.inl q1)) | exact (bi_t (Or.inr (Or.inl q2))) | exact (bi_t (Or.inr (Or.inr q3))) | exact (bi_f (show ¬ t_isL (t_nx (W.1 13) n pp.1) from fun z => z.elim q1 (fun z => z.elim q2 q3)))))
    · refine v_iload_n X rfl dX7_doorAt_18 ?_
      refine v_bipush' X kb_114 dX7_doorAt_19 ?_
      refine v_icmp_ne (tgt := 28) X dX7_doorAt_21 (by decide) (fun q3 => ?_) (fun q3 => ?_)
      · refine v_iconst' X kc_0 dX7_doorAt_28 ?_
        exact (jn29 _ (by first | exact (bi_t (Or.inl q1)) | exact (bi_t (Or.inr (Or.inl q2))) | exact (bi_t (Or.inr (Or.inr q3))) | exact (bi_f (show ¬ t_isL (t_nx (W.1 13) n pp.1) from fun z => z.elim q1 (fun z => z.elim q2 q3)))))
      · refine v_iconst' X kc_1 dX7_doorAt_24 ?_
        refine v_goto (tgt := 29) X dX7_doorAt_25 (by decide) ?_
        exact (jn29 _ (by first | exact (bi_t (Or.inl q1)) | exact (bi_t (Or.inr (Or.inl q2))) | exact (bi_t (Or.inr (Or.inr q3))) | exact (bi_f (show ¬ t_isL (t_nx (W.1 13) n pp.1) from fun z => z.elim q1 (fun z => z.elim q2 q3)))))
