theorem qpos (q : Nat) (x : Int32) (h : ¬ x < nI 0 ∧ ¬ (nI q - nI 1) < x) : 1 ≤ q := by
  rcases Nat.eq_zero_or_pos q with z | z
  · exfalso
    rw [z] at h
    refine h.2 (Int32.lt_iff_toInt_lt.mpr ?_)
    have h3 := h.1
    rw [Int32.lt_iff_toInt_lt] at h3
    have e1 : (nI 0 - nI 1).toInt = -1 := by decide
    have e0 : (nI 0).toInt = 0 := by decide
    omega
  · exact z
theorem c_X7_isWagon' (l : Launch) (γ : Gm) (W : Wd) (cn : Nat) (hcn : W.1 10 218 = nI cn) (h1 : 1 ≤ cn) (h6 : cn ≤ 6) (v : Int32) : Cr l γ yX7_isWagon cX7_isWagon 2 (some .boolean) 1 22 0 0 [.ref (γ.1 + 86), .int v] (rdw γ W) (Det (some (.int (bi (¬ v < nI 0 ∧ ¬ nI (cn - 1) < v)))) (rdw γ W)) := by
  have h9 := c_X7_isWagon l γ W (W.1 10) cn hcn h1 h6 v
  rw [wset_self] at h9
  exact h9
theorem c_X7_of' (l : Launch) (γ : Gm) (W : Wd) (a b : Nat) (hb : 120 + 8 * a + b < 233) : Cr l γ yX7_of cX7_of 3 (some .int) 0 0 0 0 [.ref (γ.1 + 86), .int (nI a), .int (nI b)] (rdw γ W) (Det (some (.int (W.1 10 (120 + 8 * a + b)))) (rdw γ W)) := by
  have h9 := c_X7_of l γ W (W.1 10) a b hb
  rw [wset_self] at h9
  exact h9
theorem c_X7_put' (l : Launch) (γ : Gm) (W : Wd) (a b : Nat) (hb : 120 + 8 * a + b < 233) (v : Int32) : Cr l γ yX7_put cX7_put 4 none 0 0 0 0 [.ref (γ.1 + 86), .int (nI a), .int (nI b), .int v] (rdw γ W) (Det none (rdw γ (wset W 10 (upd (W.1 10) (120 + 8 * a + b) v)))) := by
  have h9 := c_X7_put l γ W (W.1 10) a b hb v
  rw [wset_self] at h9
  exact h9
theorem c_X7_couples' (l : Launch) (γ : Gm) (W : Wd) (x : Int32) : Cr l γ yX7_couples cX7_couples 4 none 1 23 0 0 [.ref (γ.1 + 86), .int x] (rdw γ W) (Det none (rdw γ (wset W 10 (q_couples (W.1 10) x)))) := by
  have h9 := c_X7_couples l γ W (W.1 10) x
  rw [wset_self] at h9
  exact h9
theorem c_X7_moves' (l : Launch) (γ : Gm) (W : Wd) (a b : Nat) (ha : a < 6) (hb : b < 3) (x : Int32) : Cr l γ yX7_moves cX7_moves 4 none 1 23 0 0 [.ref (γ.1 + 86), .int (nI a), .int (nI b), .int x] (rdw γ W) (Det none (rdw γ (wset W 10 (q_moves (W.1 10) a b x)))) := by
  have h9 := c_X7_moves l γ W (W.1 10) a b ha hb x
  rw [wset_self] at h9
  exact h9
theorem c_X7_dropsOrder' (l : Launch) (γ : Gm) (W : Wd) (q i : Nat) (hq : W.1 10 223 = nI (q + 1)) (h9 : q ≤ 9) (hi : i ≤ q) : Cr l γ yX7_dropsOrder cX7_dropsOrder 3 none 0 0 0 0 [.ref (γ.1 + 86), .int (nI i)] (rdw γ W) (Det none (rdw γ (wset W 10 (q_drop (W.1 10) q i)))) := by
  have h9 := c_X7_dropsOrder l γ W (W.1 10) q i hq h9 hi
  rw [wset_self] at h9
  exact h9
theorem c_X7_second' (l : Launch) (γ : Gm) (W : Wd) (cn q : Nat) (hcn : W.1 10 218 = nI cn) (h1 : 1 ≤ cn) (h6 : cn ≤ 6) (hq : W.1 10 223 = nI q) (h10 : q ≤ 10) (ho : ∀ t, t < q → OV (W.1 10) t) : Cr l γ yX7_second cX7_second 2 none 4 87 0 0 [.ref (γ.1 + 86)] (rdw γ W) (Det none (rdw γ (wset W 10 (q_second (W.1 10))))) := by
  have h9 := c_X7_second l γ W (W.1 10) cn q hcn h1 h6 hq h10 ho
  rw [wset_self] at h9
  exact h9
set_option maxHeartbeats 4000000 in
set_option maxRecDepth 100000 in
theorem c_X7_keeps (l : Launch) (γ : Gm) (W : Wd) (u : Nat) (hu : W.1 15 0 = nI u) (h6u : u ≤ 6) : Cr l γ yX7_keeps cX7_keeps 2 none 0 0 0 0 [.ref (γ.1 + 86)] (rdw γ W) (Det none (rdw γ (wset (wset W 11 (s_keepP (W.1 10) (W.1 11) u)) 15 (upd (W.1 15) 0 (nI (s_u u)))))) := by
  refine Cr_of [some (.ref (γ.1 + 86)), none] (by decide +kernel) (Nat.le_of_ble_eq_true rfl) rfl ?_
  intro p e s m args below meth c X
  refine v_aload_n X rfl dX7_keeps_0 ?_
  refine v_getf X (v := .int ((W.1 15) 0)) fd_X7_37 (rd_Model γ _) rfl dX7_keeps_1 ?_
  rw [hu]
  refine v_bipush' X kb_6 dX7_keeps_4 ?_
  have jn50 : ∀ (P : Nat → Int32) (v : Nat), v ≤ 5 → s_cp (W.1 10) P (233 * v) 233 = s_keepP (W.1 10) (W.1 11) u → v + 1 = s_u u → V p l e { frames := 0, cells := 0, slots := 0, locals := 0 } s m args below meth c γ (MQ below (Qof γ (Det none (rdw γ (wset (wset W 11 (s_keepP (W.1 10) (W.1 11) u)) 15 (upd (W.1 15) 0 (nI (s_u u))))))) args s 0 0 (Ag γ)) (rdw γ (wset (wset W 11 P) 15 (upd (W.1 15) 0 (nI v)))) 0 0 50 [some (.ref (γ.1 + 86)), none] [] := by
    intro P v hv5 hP hv1
    refine v_iconst' X kc_0 dX7_keeps_50 ?_
    refine v_istore_n X (Nat.le_of_ble_eq_true rfl) rfl dX7_keeps_51 ?_
    have lp52 : ∀ (n2 : Nat) (k : Nat), k ≤ 233 ∧ 234 ≤ k + n2 → V p l e { frames := 0, cells := 0, slots := 0, locals := 0 } s m args below meth c γ (MQ below (Qof γ (Det none (rdw γ (wset (wset W 11 (s_keepP (W.1 10) (W.1 11) u)) 15 (upd (W.1 15) 0 (nI (s_u u))))))) args s 0 0 (Ag γ)) (rdw γ (wset (wset W 11 (s_cp (W.1 10) P (233 * v) k)) 15 (upd (W.1 15) 0 (nI v)))) 0 0 52 [some (.ref (γ.1 + 86)), some (.int (nI k))] [] := by
      intro n2
      induction n2 with
      | zero =>
        intro k hbd2
        exact absurd hbd2 (by omega)
      | succ n2 ih2 =>
        intro k hbd2
        refine v_iload_n X rfl dX7_keeps_52 ?_
        refine v_sipush' X ks_233 dX7_keeps_53 ?_
        refine v_icmp_ge_n (tgt := 86) X dX7_keeps_56 (by decide) (by omega) (by omega) (fun c_1 => ?_) (fun c_1 => ?_)
        · refine v_aload_n X rfl dX7_keeps_86 ?_
          refine v_dup X rfl dX7_keeps_87 ?_
          refine v_getf X (v := .int ((upd (W.1 15) 0 (nI v)) 0)) fd_X7_37 (rd_Model γ _) rfl dX7_keeps_88 ?_
          rw [pk_us]
          refine v_iconst' X kc_1 dX7_keeps_91 ?_
          refine v_iadd' X (nI_add _ _) dX7_keeps_92 ?_
          refine v_putf X fp_X7_37 (rd_Model γ _) rfl rfl (Nat.le_of_ble_eq_true rfl) dX7_keeps_93 ?_
          refine v_eqh (uq_undos γ _ _) ?_
          try simp (disch := decide) only [ws_11_10, ws_12_10, ws_12_11, ws_13_10, ws_13_11, ws_13_12, ws_14_10, ws_14_11, ws_14_12, ws_14_13, ws_15_10, ws_15_11, ws_15_12, ws_15_13, ws_15_14, wset_wset, ws_same, ws_ne, wh_ws]
          rw [upd_upd]
          have hk : k = 233 := by omega
          subst hk
          exact v_vret X rfl (Nat.le_of_ble_eq_true rfl) (Nat.le_of_ble_eq_true rfl) dX7_keeps_96 ⟨rfl, by rw [hP, hv1]⟩
        · refine v_aload_n X rfl dX7_keeps_59 ?_
          refine v_getf X fd_X7_13 (rd_Model γ _) rfl dX7_keeps_60 ?_
          refine v_sipush' X ks_233 dX7_keeps_63 ?_
          refine v_aload_n X rfl dX7_keeps_66 ?_
          refine v_getf X (v := .int ((upd (W.1 15) 0 (nI v)) 0)) fd_X7_37 (rd_Model γ _) rfl dX7_keeps_67 ?_
          rw [pk_us]
          refine v_imul' X (pk_mul _ _) dX7_keeps_70 ?_
          refine v_iload_n X rfl dX7_keeps_71 ?_
          refine v_iadd' X (nI_add _ _) dX7_keeps_72 ?_
          refine v_aload_n X rfl dX7_keeps_73 ?_
          refine v_getf X fd_X7_7 (rd_Model γ _) rfl dX7_keeps_74 ?_
          refine v_iload_n X rfl dX7_keeps_77 ?_
          refine v_iald' X (v := ((W.1 10) (k))) (rd_M γ _) (k) rfl (by omega) (by decide) (vw_at (by omega)) dX7_keeps_78 ?_
          refine v_iast X (rd_Past γ _) (((233 * v) + k)) rfl (by omega) (by decide) dX7_keeps_79 ?_
          refine v_eqh (uq_Past γ _ (by omega) _) ?_
          try simp (disch := decide) only [ws_11_10, ws_12_10, ws_12_11, ws_13_10, ws_13_11, ws_13_12, ws_14_10, ws_14_11, ws_14_12, ws_14_13, ws_15_10, ws_15_11, ws_15_12, ws_15_13, ws_15_14, wset_wset, ws_same, ws_ne, wh_ws]
          rw [s_cpS]
          refine v_iinc' X rfl rfl (nI_inc _) dX7_keeps_80 ?_
          refine v_goto (tgt := 52) X dX7_keeps_83 (by decide) ?_
          exact (ih2 (k + 1) ⟨by omega, by omega⟩)
    have hy := lp52 234 0 ⟨by omega, by omega⟩
    rw [s_cp0] at hy
    exact (hy)
  refine v_icmp_ne_n (tgt := 50) X dX7_keeps_6 (by decide) (by omega) (by omega) (fun c_1 => ?_) (fun c_1 => ?_)
  · have hz := jn50 (W.1 11) u (by omega) (by unfold s_keepP; rw [if_neg c_1]) (by unfold s_u; rw [if_neg c_1])
    rw [upd_same hu, wset_self, wset_self] at hz
    exact v_Ln (hz) ⟨Or.inr rfl, Or.inl rfl, trivial⟩
  · refine v_iconst' X kc_0 dX7_keeps_9 ?_
    refine v_istore_n X (Nat.le_of_ble_eq_true rfl) rfl dX7_keeps_10 ?_
    have lp11 : ∀ (n : Nat) (k : Nat), k ≤ 1165 ∧ 1166 ≤ k + n → V p l e { frames := 0, cells := 0, slots := 0, locals := 0 } s m args below meth c γ (MQ below (Qof γ (Det none (rdw γ (wset (wset W 11 (s_keepP (W.1 10) (W.1 11) u)) 15 (upd (W.1 15) 0 (nI (s_u u))))))) args s 0 0 (Ag γ)) (rdw γ (wset W 11 (s_sh (W.1 11) k))) 0 0 11 [some (.ref (γ.1 + 86)), some (.int (nI k))] [] := by
      intro n
      induction n with
      | zero =>
        intro k hbd
        exact absurd hbd (by omega)
      | succ n ih =>
        intro k hbd
        refine v_iload_n X rfl dX7_keeps_11 ?_
        refine v_sipush' X ks_1165 dX7_keeps_12 ?_
        refine v_icmp_ge_n (tgt := 40) X dX7_keeps_15 (by decide) (by omega) (by omega) (fun c_2 => ?_) (fun c_2 => ?_)
        · have hk : k = 1165 := by omega
          subst hk
          refine v_aload_n X rfl dX7_keeps_40 ?_
          refine v_dup X rfl dX7_keeps_41 ?_
          refine v_getf X (v := .int ((W.1 15) 0)) fd_X7_37 (rd_Model γ _) rfl dX7_keeps_42 ?_
          rw [hu]
          refine v_iconst' X kc_1 dX7_keeps_45 ?_
          refine v_isub' X (v := nI 5) (by rw [c_1]; decide) dX7_keeps_46 ?_
          refine v_putf X fp_X7_37 (rd_Model γ _) rfl rfl (Nat.le_of_ble_eq_true rfl) dX7_keeps_47 ?_
          refine v_eqh (uq_undos γ _ _) ?_
          try simp (disch := decide) only [ws_11_10, ws_12_10, ws_12_11, ws_13_10, ws_13_11, ws_13_12, ws_14_10, ws_14_11, ws_14_12, ws_14_13, ws_15_10, ws_15_11, ws_15_12, ws_15_13, ws_15_14, wset_wset, ws_same, ws_ne, wh_ws]
          have hz := jn50 (s_sh (W.1 11) 1165) 5 (by omega) (by unfold s_keepP; rw [if_pos c_1]) (by unfold s_u; rw [if_pos c_1])
          exact v_Ln (hz) ⟨Or.inr rfl, Or.inl rfl, trivial⟩
        · refine v_aload_n X rfl dX7_keeps_18 ?_
          refine v_getf X fd_X7_13 (rd_Model γ _) rfl dX7_keeps_19 ?_
          refine v_iload_n X rfl dX7_keeps_22 ?_
          refine v_aload_n X rfl dX7_keeps_23 ?_
          refine v_getf X fd_X7_13 (rd_Model γ _) rfl dX7_keeps_24 ?_
          refine v_iload_n X rfl dX7_keeps_27 ?_
          refine v_sipush' X ks_233 dX7_keeps_28 ?_
          refine v_iadd' X (nI_add _ _) dX7_keeps_31 ?_
          refine v_iald' X (v := ((s_sh (W.1 11) k) ((k + 233)))) (rd_Past γ _) ((k + 233)) rfl (by omega) (by decide) (vw_at (by omega)) dX7_keeps_32 ?_
          refine v_iast X (rd_Past γ _) (k) rfl (by omega) (by decide) dX7_keeps_33 ?_
          refine v_eqh (uq_Past γ _ (by omega) _) ?_
          try simp (disch := decide) only [ws_11_10, ws_12_10, ws_12_11, ws_13_10, ws_13_11, ws_13_12, ws_14_10, ws_14_11, ws_14_12, ws_14_13, ws_15_10, ws_15_11, ws_15_12, ws_15_13, ws_15_14, wset_wset, ws_same, ws_ne, wh_ws]
          rw [s_shS]
          refine v_iinc' X rfl rfl (nI_inc _) dX7_keeps_34 ?_
          refine v_goto (tgt := 11) X dX7_keeps_37 (by decide) ?_
          exact (ih (k + 1) ⟨by omega, by omega⟩)
    have hy := lp11 1166 0 ⟨by omega, by omega⟩
    rw [s_sh0, wset_self] at hy
    exact (hy)
set_option maxHeartbeats 4000000 in
set_option maxRecDepth 100000 in
theorem c_X7_undo (l : Launch) (γ : Gm) (W : Wd) (u : Nat) (hu : W.1 15 0 = nI u) (h6u : u ≤ 6) : Cr l γ yX7_undo cX7_undo 2 (some .int) 0 0 0 0 [.ref (γ.1 + 86)] (rdw γ W) (Det (some (.int (if u = 0 then (-1003) else nI (u - 1)))) (rdw γ (if u = 0 then W else wset (wset W 10 (s_ld (W.1 10) (W.1 11) (233 * (u - 1)) 233)) 15 (upd (W.1 15) 0 (nI (u - 1)))))) := by
  refine Cr_of [some (.ref (γ.1 + 86)), none] (by decide +kernel) (Nat.le_of_ble_eq_true rfl) rfl ?_
  intro p e s m args below meth c X
  refine v_aload_n X rfl dX7_undo_0 ?_
  refine v_getf X (v := .int ((W.1 15) 0)) fd_X7_37 (rd_Model γ _) rfl dX7_undo_1 ?_
  rw [hu]
  refine v_if_ne_n (tgt := 11) X dX7_undo_4 (by decide) (by omega) (fun q1 => ?_) (fun q1 => ?_)
  · refine v_aload_n X rfl dX7_undo_11 ?_
    refine v_dup X rfl dX7_undo_12 ?_
    refine v_getf X (v := .int ((W.1 15) 0)) fd_X7_37 (rd_Model γ _) rfl dX7_undo_13 ?_
    rw [hu]
    refine v_iconst' X kc_1 dX7_undo_16 ?_
    refine v_isub' X (v := nI (u - 1)) (pk_sub (by omega)) dX7_undo_17 ?_
    refine v_putf X fp_X7_37 (rd_Model γ _) rfl rfl (Nat.le_of_ble_eq_true rfl) dX7_undo_18 ?_
    refine v_eqh (uq_undos γ _ _) ?_
    try simp (disch := decide) only [ws_11_10, ws_12_10, ws_12_11, ws_13_10, ws_13_11, ws_13_12, ws_14_10, ws_14_11, ws_14_12, ws_14_13, ws_15_10, ws_15_11, ws_15_12, ws_15_13, ws_15_14, wset_wset, ws_same, ws_ne, wh_ws]
    refine v_iconst' X kc_0 dX7_undo_21 ?_
    refine v_istore_n X (Nat.le_of_ble_eq_true rfl) rfl dX7_undo_22 ?_
    have lp23 : ∀ (n : Nat) (k : Nat), k ≤ 233 ∧ 234 ≤ k + n → V p l e { frames := 0, cells := 0, slots := 0, locals := 0 } s m args below meth c γ (MQ below (Qof γ (Det (some (.int (if u = 0 then (-1003) else nI (u - 1)))) (rdw γ (if u = 0 then W else wset (wset W 10 (s_ld (W.1 10) (W.1 11) (233 * (u - 1)) 233)) 15 (upd (W.1 15) 0 (nI (u - 1))))))) args s 0 0 (Ag γ)) (rdw γ (wset (wset W 10 (s_ld (W.1 10) (W.1 11) (233 * (u - 1)) k)) 15 (upd (W.1 15) 0 (nI (u - 1))))) 0 0 23 [some (.ref (γ.1 + 86)), some (.int (nI k))] [] := by
      intro n
      induction n with
      | zero =>
        intro k hbd
        exact absurd hbd (by omega)
      | succ n ih =>
        intro k hbd
        refine v_iload_n X rfl dX7_undo_23 ?_
        refine v_sipush' X ks_233 dX7_undo_24 ?_
        refine v_icmp_ge_n (tgt := 57) X dX7_undo_27 (by decide) (by omega) (by omega) (fun c_1 => ?_) (fun c_1 => ?_)
        · have hk : k = 233 := by omega
          subst hk
          refine v_aload_n X rfl dX7_undo_57 ?_
          refine v_getf X (v := .int ((upd (W.1 15) 0 (nI (u - 1))) 0)) fd_X7_37 (rd_Model γ _) rfl dX7_undo_58 ?_
          rw [pk_us]
          exact v_iret X rfl (Nat.le_of_ble_eq_true rfl) (Nat.le_of_ble_eq_true rfl) dX7_undo_61 ⟨so_some (by first | rw [if_pos q1] | rw [if_neg q1]), congrArg (rdw γ) (by first | rw [if_pos q1] | rw [if_neg q1])⟩
        · refine v_aload_n X rfl dX7_undo_30 ?_
          refine v_getf X fd_X7_7 (rd_Model γ _) rfl dX7_undo_31 ?_
          refine v_iload_n X rfl dX7_undo_34 ?_
          refine v_aload_n X rfl dX7_undo_35 ?_
          refine v_getf X fd_X7_13 (rd_Model γ _) rfl dX7_undo_36 ?_
          refine v_sipush' X ks_233 dX7_undo_39 ?_
          refine v_aload_n X rfl dX7_undo_42 ?_
          refine v_getf X (v := .int ((upd (W.1 15) 0 (nI (u - 1))) 0)) fd_X7_37 (rd_Model γ _) rfl dX7_undo_43 ?_
          rw [pk_us]
          refine v_imul' X (pk_mul _ _) dX7_undo_46 ?_
          refine v_iload_n X rfl dX7_undo_47 ?_
          refine v_iadd' X (nI_add _ _) dX7_undo_48 ?_
          refine v_iald' X (v := ((W.1 11) (((233 * (u - 1)) + k)))) (rd_Past γ _) (((233 * (u - 1)) + k)) rfl (by omega) (by decide) (vw_at (by omega)) dX7_undo_49 ?_
          refine v_iast X (rd_M γ _) (k) rfl (by omega) (by decide) dX7_undo_50 ?_
          refine v_eqh (uq_M γ _ (by omega) _) ?_
          try simp (disch := decide) only [ws_11_10, ws_12_10, ws_12_11, ws_13_10, ws_13_11, ws_13_12, ws_14_10, ws_14_11, ws_14_12, ws_14_13, ws_15_10, ws_15_11, ws_15_12, ws_15_13, ws_15_14, wset_wset, ws_same, ws_ne, wh_ws]
          rw [s_ldS]
          refine v_iinc' X rfl rfl (nI_inc _) dX7_undo_51 ?_
          refine v_goto (tgt := 23) X dX7_undo_54 (by decide) ?_
          exact (ih (k + 1) ⟨by omega, by omega⟩)
    have hy := lp23 234 0 ⟨by omega, by omega⟩
    rw [s_ld0, wset_self] at hy
    exact (hy)
  · refine v_sipush' X ks_m1003 dX7_undo_7 ?_
    exact v_iret X rfl (Nat.le_of_ble_eq_true rfl) (Nat.le_of_ble_eq_true rfl) dX7_undo_10 ⟨so_some (by first | rw [if_pos q1] | rw [if_neg q1]), congrArg (rdw γ) (by first | rw [if_pos q1] | rw [if_neg q1])⟩
set_option maxHeartbeats 4000000 in
set_option maxRecDepth 100000 in
theorem c_X7_keepsAside (l : Launch) (γ : Gm) (W : Wd) : Cr l γ yX7_keepsAside cX7_keepsAside 2 none 0 0 0 0 [.ref (γ.1 + 86)] (rdw γ W) (Det none (rdw γ (wset W 12 (s_as (W.1 12) (W.1 10) 233)))) := by
  refine Cr_of [some (.ref (γ.1 + 86)), none] (by decide +kernel) (Nat.le_of_ble_eq_true rfl) rfl ?_
  intro p e s m args below meth c X
  refine v_iconst' X kc_0 dX7_keepsAside_0 ?_
  refine v_istore_n X (Nat.le_of_ble_eq_true rfl) rfl dX7_keepsAside_1 ?_
  have lp2 : ∀ (n : Nat) (k : Nat), k ≤ 233 ∧ 234 ≤ k + n → V p l e { frames := 0, cells := 0, slots := 0, locals := 0 } s m args below meth c γ (MQ below (Qof γ (Det none (rdw γ (wset W 12 (s_as (W.1 12) (W.1 10) 233))))) args s 0 0 (Ag γ)) (rdw γ (wset W 12 (s_as (W.1 12) (W.1 10) k))) 0 0 2 [some (.ref (γ.1 + 86)), some (.int (nI k))] [] := by
    intro n
    induction n with
    | zero =>
      intro k hbd
      exact absurd hbd (by omega)
    | succ n ih =>
      intro k hbd
      refine v_iload_n X rfl dX7_keepsAside_2 ?_
      refine v_sipush' X ks_233 dX7_keepsAside_3 ?_
      refine v_icmp_ge_n (tgt := 27) X dX7_keepsAside_6 (by decide) (by omega) (by omega) (fun c_1 => ?_) (fun c_1 => ?_)
      · have hk : k = 233 := by omega
        subst hk
        exact v_vret X rfl (Nat.le_of_ble_eq_true rfl) (Nat.le_of_ble_eq_true rfl) dX7_keepsAside_27 ⟨rfl, rfl⟩
      · refine v_aload_n X rfl dX7_keepsAside_9 ?_
        refine v_getf X fd_X7_16 (rd_Model γ _) rfl dX7_keepsAside_10 ?_
        refine v_iload_n X rfl dX7_keepsAside_13 ?_
        refine v_aload_n X rfl dX7_keepsAside_14 ?_
        refine v_getf X fd_X7_7 (rd_Model γ _) rfl dX7_keepsAside_15 ?_
        refine v_iload_n X rfl dX7_keepsAside_18 ?_
        refine v_iald' X (v := ((W.1 10) (k))) (rd_M γ _) (k) rfl (by omega) (by decide) (vw_at (by omega)) dX7_keepsAside_19 ?_
        refine v_iast X (rd_Aside γ _) (k) rfl (by omega) (by decide) dX7_keepsAside_20 ?_
        refine v_eqh (uq_Aside γ _ (by omega) _) ?_
        try simp (disch := decide) only [ws_11_10, ws_12_10, ws_12_11, ws_13_10, ws_13_11, ws_13_12, ws_14_10, ws_14_11, ws_14_12, ws_14_13, ws_15_10, ws_15_11, ws_15_12, ws_15_13, ws_15_14, wset_wset, ws_same, ws_ne, wh_ws]
        rw [s_asS]
        refine v_iinc' X rfl rfl (nI_inc _) dX7_keepsAside_21 ?_
        refine v_goto (tgt := 2) X dX7_keepsAside_24 (by decide) ?_
        exact (ih (k + 1) ⟨by omega, by omega⟩)
  have hy := lp2 234 0 ⟨by omega, by omega⟩
  rw [s_as0, wset_self] at hy
  exact (hy)
set_option maxHeartbeats 4000000 in
set_option maxRecDepth 100000 in
theorem c_X7_returns (l : Launch) (γ : Gm) (W : Wd) : Cr l γ yX7_returns cX7_returns 2 none 0 0 0 0 [.ref (γ.1 + 86)] (rdw γ W) (Det none (rdw γ (wset W 10 (s_as (W.1 10) (W.1 12) 233)))) := by
  refine Cr_of [some (.ref (γ.1 + 86)), none] (by decide +kernel) (Nat.le_of_ble_eq_true rfl) rfl ?_
  intro p e s m args below meth c X
  refine v_iconst' X kc_0 dX7_returns_0 ?_
  refine v_istore_n X (Nat.le_of_ble_eq_true rfl) rfl dX7_returns_1 ?_
  have lp2 : ∀ (n : Nat) (k : Nat), k ≤ 233 ∧ 234 ≤ k + n → V p l e { frames := 0, cells := 0, slots := 0, locals := 0 } s m args below meth c γ (MQ below (Qof γ (Det none (rdw γ (wset W 10 (s_as (W.1 10) (W.1 12) 233))))) args s 0 0 (Ag γ)) (rdw γ (wset W 10 (s_as (W.1 10) (W.1 12) k))) 0 0 2 [some (.ref (γ.1 + 86)), some (.int (nI k))] [] := by
    intro n
    induction n with
    | zero =>
      intro k hbd
      exact absurd hbd (by omega)
    | succ n ih =>
      intro k hbd
      refine v_iload_n X rfl dX7_returns_2 ?_
      refine v_sipush' X ks_233 dX7_returns_3 ?_
      refine v_icmp_ge_n (tgt := 27) X dX7_returns_6 (by decide) (by omega) (by omega) (fun c_1 => ?_) (fun c_1 => ?_)
      · have hk : k = 233 := by omega
        subst hk
        exact v_vret X rfl (Nat.le_of_ble_eq_true rfl) (Nat.le_of_ble_eq_true rfl) dX7_returns_27 ⟨rfl, rfl⟩
      · refine v_aload_n X rfl dX7_returns_9 ?_
        refine v_getf X fd_X7_7 (rd_Model γ _) rfl dX7_returns_10 ?_
        refine v_iload_n X rfl dX7_returns_13 ?_
        refine v_aload_n X rfl dX7_returns_14 ?_
        refine v_getf X fd_X7_16 (rd_Model γ _) rfl dX7_returns_15 ?_
        refine v_iload_n X rfl dX7_returns_18 ?_
        refine v_iald' X (v := ((W.1 12) (k))) (rd_Aside γ _) (k) rfl (by omega) (by decide) (vw_at (by omega)) dX7_returns_19 ?_
        refine v_iast X (rd_M γ _) (k) rfl (by omega) (by decide) dX7_returns_20 ?_
        refine v_eqh (uq_M γ _ (by omega) _) ?_
        try simp (disch := decide) only [ws_11_10, ws_12_10, ws_12_11, ws_13_10, ws_13_11, ws_13_12, ws_14_10, ws_14_11, ws_14_12, ws_14_13, ws_15_10, ws_15_11, ws_15_12, ws_15_13, ws_15_14, wset_wset, ws_same, ws_ne, wh_ws]
        rw [s_asS]
        refine v_iinc' X rfl rfl (nI_inc _) dX7_returns_21 ?_
        refine v_goto (tgt := 2) X dX7_returns_24 (by decide) ?_
        exact (ih (k + 1) ⟨by omega, by omega⟩)
  have hy := lp2 234 0 ⟨by omega, by omega⟩
  rw [s_as0, wset_self] at hy
  exact (hy)
set_option maxHeartbeats 4000000 in
set_option maxRecDepth 100000 in
theorem c_X7_type (l : Launch) (γ : Gm) (W : Wd) (t : Nat) (ht : W.1 15 1 = nI t) (h60 : t ≤ 60) (x : Int32) : Cr l γ yX7_type cX7_type 2 (some .int) 1 22 0 0 [.ref (γ.1 + 86), .int x] (rdw γ W) (Det (some (.int (if ¬ x < nI 0 ∧ ¬ nI 127 < x then (if t = 60 then (-1004) else nI (t + 1)) else (-1002)))) (rdw γ (if ¬ x < nI 0 ∧ ¬ nI 127 < x then (if t = 60 then W else wset (wset W 13 (upd (W.1 13) t x)) 15 (upd (W.1 15) 1 (nI (t + 1)))) else W))) := by
  refine Cr_of [some (.ref (γ.1 + 86)), some (.int x)] (by decide +kernel) (Nat.le_of_ble_eq_true rfl) rfl ?_
  intro p e s m args below meth c X
  refine v_iload_n X rfl dX7_type_0 ?_
  refine v_iconst' X kc_0 dX7_type_1 ?_
  refine v_bipush' X kb_127 dX7_type_2 ?_
  refine v_callS X ms_X7_29 (c_X7_in l γ _ _ _ _) rfl ⟨Nat.le_of_ble_eq_true rfl, Nat.le_of_ble_eq_true rfl, Nat.le_of_ble_eq_true rfl, Nat.le_of_ble_eq_true rfl⟩ (Nat.le_of_ble_eq_true rfl) rfl dX7_type_4 rfl (det_i ?_)
  refine v_if_ne_b (tgt := 14) X dX7_type_7 (by decide) (fun c_1 => ?_) (fun c_1 => ?_)
  · refine v_aload_n X rfl dX7_type_14 ?_
    refine v_getf X (v := .int ((W.1 15) 1)) fd_X7_41 (rd_Model γ _) rfl dX7_type_15 ?_
    rw [ht]
    refine v_bipush' X kb_60 dX7_type_18 ?_
    refine v_icmp_ne_n (tgt := 27) X dX7_type_20 (by decide) (by omega) (by omega) (fun c_2 => ?_) (fun c_2 => ?_)
    · refine v_aload_n X rfl dX7_type_27 ?_
      refine v_getf X fd_X7_19 (rd_Model γ _) rfl dX7_type_28 ?_
      refine v_aload_n X rfl dX7_type_31 ?_
      refine v_getf X (v := .int ((W.1 15) 1)) fd_X7_41 (rd_Model γ _) rfl dX7_type_32 ?_
      rw [ht]
      refine v_iload_n X rfl dX7_type_35 ?_
      refine v_iast X (rd_MText γ _) (t) rfl (by omega) (by decide) dX7_type_36 ?_
      refine v_eqh (uq_MText γ _ (by omega) _) ?_
      try simp (disch := decide) only [ws_11_10, ws_12_10, ws_12_11, ws_13_10, ws_13_11, ws_13_12, ws_14_10, ws_14_11, ws_14_12, ws_14_13, ws_15_10, ws_15_11, ws_15_12, ws_15_13, ws_15_14, wset_wset, ws_same, ws_ne, wh_ws]
      refine v_aload_n X rfl dX7_type_37 ?_
      refine v_dup X rfl dX7_type_38 ?_
      refine v_getf X (v := .int ((W.1 15) 1)) fd_X7_41 (rd_Model γ _) rfl dX7_type_39 ?_
      rw [ht]
      refine v_iconst' X kc_1 dX7_type_42 ?_
      refine v_iadd' X (nI_add _ _) dX7_type_43 ?_
      refine v_putf X fp_X7_41 (rd_Model γ _) rfl rfl (Nat.le_of_ble_eq_true rfl) dX7_type_44 ?_
      refine v_eqh (uq_textLength γ _ _) ?_
      try simp (disch := decide) only [ws_11_10, ws_12_10, ws_12_11, ws_13_10, ws_13_11, ws_13_12, ws_14_10, ws_14_11, ws_14_12, ws_14_13, ws_15_10, ws_15_11, ws_15_12, ws_15_13, ws_15_14, wset_wset, ws_same, ws_ne, wh_ws]
      refine v_aload_n X rfl dX7_type_47 ?_
      refine v_getf X (v := .int ((upd (W.1 15) 1 (nI ((t + 1)))) 1)) fd_X7_41 (rd_Model γ _) rfl dX7_type_48 ?_
      rw [pk_us]
      exact v_iret X rfl (Nat.le_of_ble_eq_true rfl) (Nat.le_of_ble_eq_true rfl) dX7_type_51 ⟨so_some (by first | rw [if_neg c_1] | rw [if_pos c_1, if_pos c_2] | rw [if_pos c_1, if_neg c_2]), congrArg (rdw γ) (by first | rw [if_neg c_1] | rw [if_pos c_1, if_pos c_2] | rw [if_pos c_1, if_neg c_2])⟩
    · refine v_sipush' X ks_m1004 dX7_type_23 ?_
      exact v_iret X rfl (Nat.le_of_ble_eq_true rfl) (Nat.le_of_ble_eq_true rfl) dX7_type_26 ⟨so_some (by first | rw [if_neg c_1] | rw [if_pos c_1, if_pos c_2] | rw [if_pos c_1, if_neg c_2]), congrArg (rdw γ) (by first | rw [if_neg c_1] | rw [if_pos c_1, if_pos c_2] | rw [if_pos c_1, if_neg c_2])⟩
  · refine v_sipush' X ks_m1002 dX7_type_10 ?_
    exact v_iret X rfl (Nat.le_of_ble_eq_true rfl) (Nat.le_of_ble_eq_true rfl) dX7_type_13 ⟨so_some (by first | rw [if_neg c_1] | rw [if_pos c_1, if_pos c_2] | rw [if_pos c_1, if_neg c_2]), congrArg (rdw γ) (by first | rw [if_neg c_1] | rw [if_pos c_1, if_pos c_2] | rw [if_pos c_1, if_neg c_2])⟩
set_option maxHeartbeats 4000000 in
set_option maxRecDepth 100000 in
theorem c_X7_clearText (l : Launch) (γ : Gm) (W : Wd) : Cr l γ yX7_clearText cX7_clearText 2 (some .int) 0 0 0 0 [.ref (γ.1 + 86)] (rdw γ W) (Det (some (.int (W.1 15 1))) (rdw γ (wset W 15 (upd (W.1 15) 1 (nI 0))))) := by
  refine Cr_of [some (.ref (γ.1 + 86)), none] (by decide +kernel) (Nat.le_of_ble_eq_true rfl) rfl ?_
  intro p e s m args below meth c X
  refine v_aload_n X rfl dX7_clearText_0 ?_
  refine v_getf X (v := .int ((W.1 15) 1)) fd_X7_41 (rd_Model γ _) rfl dX7_clearText_1 ?_
  refine v_istore_n X (Nat.le_of_ble_eq_true rfl) rfl dX7_clearText_4 ?_
  refine v_aload_n X rfl dX7_clearText_5 ?_
  refine v_iconst' X kc_0 dX7_clearText_6 ?_
  refine v_putf X fp_X7_41 (rd_Model γ _) rfl rfl (Nat.le_of_ble_eq_true rfl) dX7_clearText_7 ?_
  refine v_eqh (uq_textLength γ _ _) ?_
  try simp (disch := decide) only [ws_11_10, ws_12_10, ws_12_11, ws_13_10, ws_13_11, ws_13_12, ws_14_10, ws_14_11, ws_14_12, ws_14_13, ws_15_10, ws_15_11, ws_15_12, ws_15_13, ws_15_14, wset_wset, ws_same, ws_ne, wh_ws]
  refine v_iload_n X rfl dX7_clearText_10 ?_
  exact v_iret X rfl (Nat.le_of_ble_eq_true rfl) (Nat.le_of_ble_eq_true rfl) dX7_clearText_11 ⟨rfl, rfl⟩
set_option maxHeartbeats 4000000 in
set_option maxRecDepth 100000 in
theorem c_X7_set (l : Launch) (γ : Gm) (W : Wd) (u : Nat) (hu : W.1 15 0 = nI u) (h6u : u ≤ 6) (x z : Int32) : Cr l γ yX7_set cX7_set 5 (some .int) 1 22 0 0 [.ref (γ.1 + 86), .int x, .int z] (rdw γ W) (Det (some (.int (if ¬ x < nI 0 ∧ ¬ nI 4 < x then (if ¬ z < lstS x.toNatClampNeg ∧ ¬ mstS x.toNatClampNeg < z then (W.1 10 (228 + x.toNatClampNeg)) else (-1002)) else (-1002)))) (rdw γ (if ¬ x < nI 0 ∧ ¬ nI 4 < x then (if ¬ z < lstS x.toNatClampNeg ∧ ¬ mstS x.toNatClampNeg < z then (wset (wset (wset W 10 (upd (W.1 10) (228 + x.toNatClampNeg) z)) 11 (s_keepP (W.1 10) (W.1 11) u)) 15 (upd (W.1 15) 0 (nI (s_u u)))) else W) else W))) := by
  refine Cr_of [some (.ref (γ.1 + 86)), some (.int x), some (.int z), none, none] (by decide +kernel) (Nat.le_of_ble_eq_true rfl) rfl ?_
  intro p e s m args below meth c X
  refine v_iload_n X rfl dX7_set_0 ?_
  have jn37 : ∀ (v : Int32), v = s_setMost x → V p l e { frames := 1, cells := 0, slots := 0, locals := 22 } s m args below meth c γ (MQ below (Qof γ (Det (some (.int (if ¬ x < nI 0 ∧ ¬ nI 4 < x then (if ¬ z < lstS x.toNatClampNeg ∧ ¬ mstS x.toNatClampNeg < z then (W.1 10 (228 + x.toNatClampNeg)) else (-1002)) else (-1002)))) (rdw γ (if ¬ x < nI 0 ∧ ¬ nI 4 < x then (if ¬ z < lstS x.toNatClampNeg ∧ ¬ mstS x.toNatClampNeg < z then (wset (wset (wset W 10 (upd (W.1 10) (228 + x.toNatClampNeg) z)) 11 (s_keepP (W.1 10) (W.1 11) u)) 15 (upd (W.1 15) 0 (nI (s_u u)))) else W) else W)))) args s 0 0 (Ag γ)) (rdw γ W) 0 0 37 [some (.ref (γ.1 + 86)), some (.int x), some (.int z), none, none] [.int v] := by
    intro v hv
    refine v_istore_n X (Nat.le_of_ble_eq_true rfl) rfl dX7_set_37 ?_
    refine v_iload_n X rfl dX7_set_38 ?_
    refine v_iconst' X kc_0 dX7_set_39 ?_
    refine v_iconst' X kc_4 dX7_set_40 ?_
    refine v_callS X ms_X7_29 (c_X7_in l γ _ _ _ _) rfl ⟨Nat.le_of_ble_eq_true rfl, Nat.le_of_ble_eq_true rfl, Nat.le_of_ble_eq_true rfl, Nat.le_of_ble_eq_true rfl⟩ (Nat.le_of_ble_eq_true rfl) rfl dX7_set_41 rfl (det_i ?_)
    refine v_if_eq_b (tgt := 65) X dX7_set_44 (by decide) (fun q1 => ?_) (fun q1 => ?_)
    · refine v_sipush' X ks_m1002 dX7_set_65 ?_
      exact v_iret X rfl (Nat.le_of_ble_eq_true rfl) (Nat.le_of_ble_eq_true rfl) dX7_set_68 ⟨so_some (by first | (rw [if_neg q1]) | (rw [if_pos q1, ej, if_neg q3]) | (rw [if_pos q1, ej, if_pos q3])), congrArg (rdw γ) (by first | (rw [if_neg q1]) | (rw [if_pos q1, ej, if_neg q3]) | (rw [if_pos q1, ej, if_pos q3]))⟩
    · obtain ⟨j, hj, rfl⟩ := in_nat (by decide) q1
      have ej : (nI j).toNatClampNeg = j := nI_clamp (by omega)
      rw [s_setM j (by omega)] at hv
      subst hv
      refine v_iload_n X rfl dX7_set_47 ?_
      refine v_iload_n X rfl dX7_set_48 ?_
      refine v_iconst' X kc_2 dX7_set_49 ?_
      refine v_icmp_ge_n (tgt := 57) X dX7_set_50 (by decide) (by omega) (by omega) (fun q2 => ?_) (fun q2 => ?_)
      · refine v_iconst' X kc_0 dX7_set_57 ?_
        refine v_iload_n X rfl dX7_set_58 ?_
        refine v_callS X ms_X7_29 (c_X7_in l γ _ _ _ _) rfl ⟨Nat.le_of_ble_eq_true rfl, Nat.le_of_ble_eq_true rfl, Nat.le_of_ble_eq_true rfl, Nat.le_of_ble_eq_true rfl⟩ (Nat.le_of_ble_eq_true rfl) rfl dX7_set_59 rfl (det_i ?_)
        refine v_if_ne_b (tgt := 69) X dX7_set_62 (by decide) (fun q4 => ?_) (fun q4 => ?_)
        · have q3 : ¬ z < lstS j ∧ ¬ mstS j < z := by rw [s_setL j (by omega)]; (first | rw [if_pos q2] | rw [if_neg (by omega)]); exact q4
          refine v_aload_n X rfl dX7_set_69 ?_
          refine v_callV (ci := 8) X mv_X7_124 (c_X7_keeps l γ _ u (by exact hu) h6u) rfl rfl (rd_Model γ _) rfl ⟨Nat.le_of_ble_eq_true rfl, Nat.le_of_ble_eq_true rfl, Nat.le_of_ble_eq_true rfl, Nat.le_of_ble_eq_true rfl⟩ (Nat.le_of_ble_eq_true rfl) rfl dX7_set_70 rfl (det_v ?_)
          try simp (disch := decide) only [ws_11_10, ws_12_10, ws_12_11, ws_13_10, ws_13_11, ws_13_12, ws_14_10, ws_14_11, ws_14_12, ws_14_13, ws_15_10, ws_15_11, ws_15_12, ws_15_13, ws_15_14, wset_wset, ws_same, ws_ne, wh_ws]
          refine v_aload_n X rfl dX7_set_73 ?_
          refine v_getf X fd_X7_7 (rd_Model γ _) rfl dX7_set_74 ?_
          refine v_sipush' X ks_228 dX7_set_77 ?_
          refine v_iload_n X rfl dX7_set_80 ?_
          refine v_iadd' X (nI_add _ _) dX7_set_81 ?_
          refine v_iald' X (v := ((W.1 10) ((228 + j)))) (rd_M γ _) ((228 + j)) rfl (by omega) (by decide) (vw_at (by omega)) dX7_set_82 ?_
          refine v_istore X (Nat.le_of_ble_eq_true rfl) rfl dX7_set_83 ?_
          refine v_aload_n X rfl dX7_set_85 ?_
          refine v_getf X fd_X7_7 (rd_Model γ _) rfl dX7_set_86 ?_
          refine v_sipush' X ks_228 dX7_set_89 ?_
          refine v_iload_n X rfl dX7_set_92 ?_
          refine v_iadd' X (nI_add _ _) dX7_set_93 ?_
          refine v_iload_n X rfl dX7_set_94 ?_
          refine v_iast X (rd_M γ _) ((228 + j)) rfl (by omega) (by decide) dX7_set_95 ?_
          refine v_eqh (uq_M γ _ (by omega) _) ?_
          try simp (disch := decide) only [ws_11_10, ws_12_10, ws_12_11, ws_13_10, ws_13_11, ws_13_12, ws_14_10, ws_14_11, ws_14_12, ws_14_13, ws_15_10, ws_15_11, ws_15_12, ws_15_13, ws_15_14, wset_wset, ws_same, ws_ne, wh_ws]
          refine v_iload X rfl dX7_set_96 ?_
          exact v_iret X rfl (Nat.le_of_ble_eq_true rfl) (Nat.le_of_ble_eq_true rfl) dX7_set_98 ⟨so_some (by first | (rw [if_neg q1]) | (rw [if_pos q1, ej, if_neg q3]) | (rw [if_pos q1, ej, if_pos q3])), congrArg (rdw γ) (by first | (rw [if_neg q1]) | (rw [if_pos q1, ej, if_neg q3]) | (rw [if_pos q1, ej, if_pos q3]))⟩
        · have q3 : ¬ (¬ z < lstS j ∧ ¬ mstS j < z) := by rw [s_setL j (by omega)]; (first | rw [if_pos q2] | rw [if_neg (by omega)]); exact q4
          refine v_sipush' X ks_m1002 dX7_set_65 ?_
          exact v_iret X rfl (Nat.le_of_ble_eq_true rfl) (Nat.le_of_ble_eq_true rfl) dX7_set_68 ⟨so_some (by first | (rw [if_neg q1]) | (rw [if_pos q1, ej, if_neg q3]) | (rw [if_pos q1, ej, if_pos q3])), congrArg (rdw γ) (by first | (rw [if_neg q1]) | (rw [if_pos q1, ej, if_neg q3]) | (rw [if_pos q1, ej, if_pos q3]))⟩
      · refine v_iconst' X kc_1 dX7_set_53 ?_
        refine v_goto (tgt := 58) X dX7_set_54 (by decide) ?_
        refine v_iload_n X rfl dX7_set_58 ?_
        refine v_callS X ms_X7_29 (c_X7_in l γ _ _ _ _) rfl ⟨Nat.le_of_ble_eq_true rfl, Nat.le_of_ble_eq_true rfl, Nat.le_of_ble_eq_true rfl, Nat.le_of_ble_eq_true rfl⟩ (Nat.le_of_ble_eq_true rfl) rfl dX7_set_59 rfl (det_i ?_)
        refine v_if_ne_b (tgt := 69) X dX7_set_62 (by decide) (fun q4 => ?_) (fun q4 => ?_)
        · have q3 : ¬ z < lstS j ∧ ¬ mstS j < z := by rw [s_setL j (by omega)]; (first | rw [if_pos q2] | rw [if_neg (by omega)]); exact q4
          refine v_aload_n X rfl dX7_set_69 ?_
          refine v_callV (ci := 8) X mv_X7_124 (c_X7_keeps l γ _ u (by exact hu) h6u) rfl rfl (rd_Model γ _) rfl ⟨Nat.le_of_ble_eq_true rfl, Nat.le_of_ble_eq_true rfl, Nat.le_of_ble_eq_true rfl, Nat.le_of_ble_eq_true rfl⟩ (Nat.le_of_ble_eq_true rfl) rfl dX7_set_70 rfl (det_v ?_)
          try simp (disch := decide) only [ws_11_10, ws_12_10, ws_12_11, ws_13_10, ws_13_11, ws_13_12, ws_14_10, ws_14_11, ws_14_12, ws_14_13, ws_15_10, ws_15_11, ws_15_12, ws_15_13, ws_15_14, wset_wset, ws_same, ws_ne, wh_ws]
          refine v_aload_n X rfl dX7_set_73 ?_
          refine v_getf X fd_X7_7 (rd_Model γ _) rfl dX7_set_74 ?_
          refine v_sipush' X ks_228 dX7_set_77 ?_
          refine v_iload_n X rfl dX7_set_80 ?_
          refine v_iadd' X (nI_add _ _) dX7_set_81 ?_
          refine v_iald' X (v := ((W.1 10) ((228 + j)))) (rd_M γ _) ((228 + j)) rfl (by omega) (by decide) (vw_at (by omega)) dX7_set_82 ?_
          refine v_istore X (Nat.le_of_ble_eq_true rfl) rfl dX7_set_83 ?_
          refine v_aload_n X rfl dX7_set_85 ?_
          refine v_getf X fd_X7_7 (rd_Model γ _) rfl dX7_set_86 ?_
          refine v_sipush' X ks_228 dX7_set_89 ?_
          refine v_iload_n X rfl dX7_set_92 ?_
          refine v_iadd' X (nI_add _ _) dX7_set_93 ?_
          refine v_iload_n X rfl dX7_set_94 ?_
          refine v_iast X (rd_M γ _) ((228 + j)) rfl (by omega) (by decide) dX7_set_95 ?_
          refine v_eqh (uq_M γ _ (by omega) _) ?_
          try simp (disch := decide) only [ws_11_10, ws_12_10, ws_12_11, ws_13_10, ws_13_11, ws_13_12, ws_14_10, ws_14_11, ws_14_12, ws_14_13, ws_15_10, ws_15_11, ws_15_12, ws_15_13, ws_15_14, wset_wset, ws_same, ws_ne, wh_ws]
          refine v_iload X rfl dX7_set_96 ?_
          exact v_iret X rfl (Nat.le_of_ble_eq_true rfl) (Nat.le_of_ble_eq_true rfl) dX7_set_98 ⟨so_some (by first | (rw [if_neg q1]) | (rw [if_pos q1, ej, if_neg q3]) | (rw [if_pos q1, ej, if_pos q3])), congrArg (rdw γ) (by first | (rw [if_neg q1]) | (rw [if_pos q1, ej, if_neg q3]) | (rw [if_pos q1, ej, if_pos q3]))⟩
        · have q3 : ¬ (¬ z < lstS j ∧ ¬ mstS j < z) := by rw [s_setL j (by omega)]; (first | rw [if_pos q2] | rw [if_neg (by omega)]); exact q4
          refine v_sipush' X ks_m1002 dX7_set_65 ?_
          exact v_iret X rfl (Nat.le_of_ble_eq_true rfl) (Nat.le_of_ble_eq_true rfl) dX7_set_68 ⟨so_some (by first | (rw [if_neg q1]) | (rw [if_pos q1, ej, if_neg q3]) | (rw [if_pos q1, ej, if_pos q3])), congrArg (rdw γ) (by first | (rw [if_neg q1]) | (rw [if_pos q1, ej, if_neg q3]) | (rw [if_pos q1, ej, if_pos q3]))⟩
  refine v_if_ne (tgt := 9) X dX7_set_1 (by decide) (fun p1 => ?_) (fun p1 => ?_)
  · refine v_iload_n X rfl dX7_set_9 ?_
    refine v_iconst' X kc_1 dX7_set_10 ?_
    refine v_icmp_eq (tgt := 19) X dX7_set_11 (by decide) (fun p2 => ?_) (fun p2 => ?_)
    · refine v_bipush' X kb_60 dX7_set_19 ?_
      refine v_goto (tgt := 37) X dX7_set_21 (by decide) ?_
      exact v_Ln (jn37 _ (by unfold s_setMost; first | rw [if_pos p1] | rw [if_neg p1, if_pos p2] | rw [if_neg p1, if_neg p2, if_pos p3] | rw [if_neg p1, if_neg p2, if_neg p3, if_pos p4] | rw [if_neg p1, if_neg p2, if_neg p3, if_neg p4])) ⟨Or.inr rfl, Or.inr rfl, Or.inr rfl, Or.inl rfl, Or.inl rfl, trivial⟩
    · refine v_iload_n X rfl dX7_set_14 ?_
      refine v_iconst' X kc_4 dX7_set_15 ?_
      refine v_icmp_ne (tgt := 24) X dX7_set_16 (by decide) (fun p3 => ?_) (fun p3 => ?_)
      · refine v_iload_n X rfl dX7_set_24 ?_
        refine v_iconst' X kc_2 dX7_set_25 ?_
        refine v_icmp_ne (tgt := 34) X dX7_set_26 (by decide) (fun p4 => ?_) (fun p4 => ?_)
        · refine v_sipush' X ks_200 dX7_set_34 ?_
          exact v_Ln (jn37 _ (by unfold s_setMost; first | rw [if_pos p1] | rw [if_neg p1, if_pos p2] | rw [if_neg p1, if_neg p2, if_pos p3] | rw [if_neg p1, if_neg p2, if_neg p3, if_pos p4] | rw [if_neg p1, if_neg p2, if_neg p3, if_neg p4])) ⟨Or.inr rfl, Or.inr rfl, Or.inr rfl, Or.inl rfl, Or.inl rfl, trivial⟩
        · refine v_bipush' X kb_9 dX7_set_29 ?_
          refine v_goto (tgt := 37) X dX7_set_31 (by decide) ?_
          exact v_Ln (jn37 _ (by unfold s_setMost; first | rw [if_pos p1] | rw [if_neg p1, if_pos p2] | rw [if_neg p1, if_neg p2, if_pos p3] | rw [if_neg p1, if_neg p2, if_neg p3, if_pos p4] | rw [if_neg p1, if_neg p2, if_neg p3, if_neg p4])) ⟨Or.inr rfl, Or.inr rfl, Or.inr rfl, Or.inl rfl, Or.inl rfl, trivial⟩
      · refine v_bipush' X kb_60 dX7_set_19 ?_
        refine v_goto (tgt := 37) X dX7_set_21 (by decide) ?_
        exact v_Ln (jn37 _ (by unfold s_setMost; first | rw [if_pos p1] | rw [if_neg p1, if_pos p2] | rw [if_neg p1, if_neg p2, if_pos p3] | rw [if_neg p1, if_neg p2, if_neg p3, if_pos p4] | rw [if_neg p1, if_neg p2, if_neg p3, if_neg p4])) ⟨Or.inr rfl, Or.inr rfl, Or.inr rfl, Or.inl rfl, Or.inl rfl, trivial⟩
  · refine v_bipush' X kb_20 dX7_set_4 ?_
    refine v_goto (tgt := 37) X dX7_set_6 (by decide) ?_
    exact v_Ln (jn37 _ (by unfold s_setMost; first | rw [if_pos p1] | rw [if_neg p1, if_pos p2] | rw [if_neg p1, if_neg p2, if_pos p3] | rw [if_neg p1, if_neg p2, if_neg p3, if_pos p4] | rw [if_neg p1, if_neg p2, if_neg p3, if_neg p4])) ⟨Or.inr rfl, Or.inr rfl, Or.inr rfl, Or.inl rfl, Or.inl rfl, trivial⟩
set_option maxHeartbeats 4000000 in
set_option maxRecDepth 100000 in
theorem c_X7_inWagons (l : Launch) (γ : Gm) (W : Wd) (cn : Nat) (hcn : W.1 10 218 = nI cn) (h1 : 1 ≤ cn) (h6 : cn ≤ 6) : Cr l γ yX7_inWagons cX7_inWagons 3 (some .int) 1 22 0 0 [.ref (γ.1 + 86)] (rdw γ W) (Det (some (.int (s_inW (W.1 10) cn))) (rdw γ W)) := by
  refine Cr_of [some (.ref (γ.1 + 86)), none, none] (by decide +kernel) (Nat.le_of_ble_eq_true rfl) rfl ?_
  intro p e s m args below meth c X
  refine v_iconst' X kc_0 dX7_inWagons_0 ?_
  refine v_istore_n X (Nat.le_of_ble_eq_true rfl) rfl dX7_inWagons_1 ?_
  refine v_iconst' X kc_0 dX7_inWagons_2 ?_
  refine v_istore_n X (Nat.le_of_ble_eq_true rfl) rfl dX7_inWagons_3 ?_
  have lp4 : ∀ (n : Nat) (k : Nat), k ≤ cn ∧ cn + 1 ≤ k + n → V p l e { frames := 1, cells := 0, slots := 0, locals := 22 } s m args below meth c γ (MQ below (Qof γ (Det (some (.int (s_inW (W.1 10) cn))) (rdw γ W))) args s 0 0 (Ag γ)) (rdw γ W) 0 0 4 [some (.ref (γ.1 + 86)), some (.int (s_inW (W.1 10) k)), some (.int (nI k))] [] := by
    intro n
    induction n with
    | zero =>
      intro k hbd
      exact absurd hbd (by omega)
    | succ n ih =>
      intro k hbd
      refine v_iload_n X rfl dX7_inWagons_4 ?_
      refine v_aload_n X rfl dX7_inWagons_5 ?_
      refine v_getf X fd_X7_7 (rd_Model γ _) rfl dX7_inWagons_6 ?_
      refine v_sipush' X ks_218 dX7_inWagons_9 ?_
      refine v_iald' X (v := nI cn) (rd_M γ _) (218) rfl (by omega) (by decide) ((vw_at (by omega)).trans hcn) dX7_inWagons_12 ?_
      refine v_icmp_ge_n (tgt := 31) X dX7_inWagons_13 (by decide) (by omega) (by omega) (fun c_1 => ?_) (fun c_1 => ?_)
      · have hk : k = cn := by omega
        subst hk
        refine v_iload_n X rfl dX7_inWagons_31 ?_
        exact v_iret X rfl (Nat.le_of_ble_eq_true rfl) (Nat.le_of_ble_eq_true rfl) dX7_inWagons_32 ⟨rfl, rfl⟩
      · refine v_iload_n X rfl dX7_inWagons_16 ?_
        refine v_aload_n X rfl dX7_inWagons_17 ?_
        refine v_iload_n X rfl dX7_inWagons_18 ?_
        refine v_iconst' X kc_0 dX7_inWagons_19 ?_
        refine v_callV (ci := 8) X mv_X7_90 (c_X7_of' l γ _ k 0 (by omega)) rfl rfl (rd_Model γ _) rfl ⟨Nat.le_of_ble_eq_true rfl, Nat.le_of_ble_eq_true rfl, Nat.le_of_ble_eq_true rfl, Nat.le_of_ble_eq_true rfl⟩ (Nat.le_of_ble_eq_true rfl) rfl dX7_inWagons_20 rfl (det_i ?_)
        try simp (disch := decide) only [ws_11_10, ws_12_10, ws_12_11, ws_13_10, ws_13_11, ws_13_12, ws_14_10, ws_14_11, ws_14_12, ws_14_13, ws_15_10, ws_15_11, ws_15_12, ws_15_13, ws_15_14, wset_wset, ws_same, ws_ne, wh_ws]
        refine v_iadd X dX7_inWagons_23 ?_
        refine v_istore_n X (Nat.le_of_ble_eq_true rfl) rfl dX7_inWagons_24 ?_
        refine v_iinc' X rfl rfl (nI_inc _) dX7_inWagons_25 ?_
        refine v_goto (tgt := 4) X dX7_inWagons_28 (by decide) ?_
        exact (ih (k + 1) ⟨by omega, by omega⟩)
  exact (lp4 (cn + 1) 0 ⟨by omega, by omega⟩)
set_option maxHeartbeats 4000000 in
set_option maxRecDepth 100000 in
theorem c_X7_setTrain (l : Launch) (γ : Gm) (W : Wd) (u : Nat) (hu : W.1 15 0 = nI u) (h6u : u ≤ 6) (cn : Nat) (hcn : W.1 10 218 = nI cn) (h1 : 1 ≤ cn) (h6 : cn ≤ 6) (x : Int32) : Cr l γ yX7_setTrain cX7_setTrain 3 (some .int) 2 46 0 0 [.ref (γ.1 + 86), .int x] (rdw γ W) (Det (some (.int (if ¬ x < nI 1 ∧ ¬ nI 6 < x then (s_inW (W.1 10) cn) else (-1002)))) (rdw γ (if ¬ x < nI 1 ∧ ¬ nI 6 < x then (wset (wset (wset W 10 (q_couples (upd (W.1 10) 227 (W.1 10 227 + s_inW (W.1 10) cn)) x)) 11 (s_keepP (W.1 10) (W.1 11) u)) 15 (upd (W.1 15) 0 (nI (s_u u)))) else W))) := by
  refine Cr_of [some (.ref (γ.1 + 86)), some (.int x), none] (by decide +kernel) (Nat.le_of_ble_eq_true rfl) rfl ?_
  intro p e s m args below meth c X
  refine v_iload_n X rfl dX7_setTrain_0 ?_
  refine v_iconst' X kc_1 dX7_setTrain_1 ?_
  refine v_bipush' X kb_6 dX7_setTrain_2 ?_
  refine v_callS X ms_X7_29 (c_X7_in l γ _ _ _ _) rfl ⟨Nat.le_of_ble_eq_true rfl, Nat.le_of_ble_eq_true rfl, Nat.le_of_ble_eq_true rfl, Nat.le_of_ble_eq_true rfl⟩ (Nat.le_of_ble_eq_true rfl) rfl dX7_setTrain_4 rfl (det_i ?_)
  refine v_if_ne_b (tgt := 14) X dX7_setTrain_7 (by decide) (fun q1 => ?_) (fun q1 => ?_)
  · refine v_aload_n X rfl dX7_setTrain_14 ?_
    refine v_callV (ci := 8) X mv_X7_124 (c_X7_keeps l γ _ u (by exact hu) h6u) rfl rfl (rd_Model γ _) rfl ⟨Nat.le_of_ble_eq_true rfl, Nat.le_of_ble_eq_true rfl, Nat.le_of_ble_eq_true rfl, Nat.le_of_ble_eq_true rfl⟩ (Nat.le_of_ble_eq_true rfl) rfl dX7_setTrain_15 rfl (det_v ?_)
    try simp (disch := decide) only [ws_11_10, ws_12_10, ws_12_11, ws_13_10, ws_13_11, ws_13_12, ws_14_10, ws_14_11, ws_14_12, ws_14_13, ws_15_10, ws_15_11, ws_15_12, ws_15_13, ws_15_14, wset_wset, ws_same, ws_ne, wh_ws]
    refine v_aload_n X rfl dX7_setTrain_18 ?_
    refine v_callV (ci := 8) X mv_X7_127 (c_X7_inWagons l γ _ cn (by exact hcn) h1 h6) rfl rfl (rd_Model γ _) rfl ⟨Nat.le_of_ble_eq_true rfl, Nat.le_of_ble_eq_true rfl, Nat.le_of_ble_eq_true rfl, Nat.le_of_ble_eq_true rfl⟩ (Nat.le_of_ble_eq_true rfl) rfl dX7_setTrain_19 rfl (det_i ?_)
    try simp (disch := decide) only [ws_11_10, ws_12_10, ws_12_11, ws_13_10, ws_13_11, ws_13_12, ws_14_10, ws_14_11, ws_14_12, ws_14_13, ws_15_10, ws_15_11, ws_15_12, ws_15_13, ws_15_14, wset_wset, ws_same, ws_ne, wh_ws]
    refine v_istore_n X (Nat.le_of_ble_eq_true rfl) rfl dX7_setTrain_22 ?_
    refine v_aload_n X rfl dX7_setTrain_23 ?_
    refine v_getf X fd_X7_7 (rd_Model γ _) rfl dX7_setTrain_24 ?_
    refine v_sipush' X ks_227 dX7_setTrain_27 ?_
    refine v_dup2 X rfl rfl dX7_setTrain_30 ?_
    refine v_iald' X (v := ((W.1 10) (227))) (rd_M γ _) (227) rfl (by omega) (by decide) (vw_at (by omega)) dX7_setTrain_31 ?_
    refine v_iload_n X rfl dX7_setTrain_32 ?_
    refine v_iadd X dX7_setTrain_33 ?_
    refine v_iast X (rd_M γ _) (227) rfl (by omega) (by decide) dX7_setTrain_34 ?_
    refine v_eqh (uq_M γ _ (by omega) _) ?_
    try simp (disch := decide) only [ws_11_10, ws_12_10, ws_12_11, ws_13_10, ws_13_11, ws_13_12, ws_14_10, ws_14_11, ws_14_12, ws_14_13, ws_15_10, ws_15_11, ws_15_12, ws_15_13, ws_15_14, wset_wset, ws_same, ws_ne, wh_ws]
    refine v_aload_n X rfl dX7_setTrain_35 ?_
    refine v_iload_n X rfl dX7_setTrain_36 ?_
    refine v_callV (ci := 8) X mv_X7_25 (c_X7_couples' l γ _ _) rfl rfl (rd_Model γ _) rfl ⟨Nat.le_of_ble_eq_true rfl, Nat.le_of_ble_eq_true rfl, Nat.le_of_ble_eq_true rfl, Nat.le_of_ble_eq_true rfl⟩ (Nat.le_of_ble_eq_true rfl) rfl dX7_setTrain_37 rfl (det_v ?_)
    try simp (disch := decide) only [ws_11_10, ws_12_10, ws_12_11, ws_13_10, ws_13_11, ws_13_12, ws_14_10, ws_14_11, ws_14_12, ws_14_13, ws_15_10, ws_15_11, ws_15_12, ws_15_13, ws_15_14, wset_wset, ws_same, ws_ne, wh_ws]
    refine v_iload_n X rfl dX7_setTrain_40 ?_
    exact v_iret X rfl (Nat.le_of_ble_eq_true rfl) (Nat.le_of_ble_eq_true rfl) dX7_setTrain_41 ⟨so_some (by first | (rw [if_neg q1]) | (rw [if_pos q1])), congrArg (rdw γ) (by first | (rw [if_neg q1]) | (rw [if_pos q1]))⟩
  · refine v_sipush' X ks_m1002 dX7_setTrain_10 ?_
    exact v_iret X rfl (Nat.le_of_ble_eq_true rfl) (Nat.le_of_ble_eq_true rfl) dX7_setTrain_13 ⟨so_some (by first | (rw [if_neg q1]) | (rw [if_pos q1])), congrArg (rdw γ) (by first | (rw [if_neg q1]) | (rw [if_pos q1]))⟩
set_option maxHeartbeats 4000000 in
set_option maxRecDepth 100000 in
theorem c_X7_load (l : Launch) (γ : Gm) (W : Wd) (u : Nat) (hu : W.1 15 0 = nI u) (h6u : u ≤ 6) (cn : Nat) (hcn : W.1 10 218 = nI cn) (h1 : 1 ≤ cn) (h6 : cn ≤ 6) (x z : Int32) : Cr l γ yX7_load cX7_load 3 (some .int) 2 43 0 0 [.ref (γ.1 + 86), .int x, .int z] (rdw γ W) (Det (some (.int (if ¬ x < nI 0 ∧ ¬ nI (cn - 1) < x then (if ¬ z < nI 1 ∧ ¬ nI 200 < z then (if W.1 10 220 = 0 then (if W.1 10 (120 + 8 * x.toNatClampNeg + 0) + z ≤ nI 200 then (W.1 10 (120 + 8 * x.toNatClampNeg + 0) + z) else (-1004)) else (-1003)) else (-1002)) else (-1002)))) (rdw γ (if ¬ x < nI 0 ∧ ¬ nI (cn - 1) < x then (if ¬ z < nI 1 ∧ ¬ nI 200 < z then (if W.1 10 220 = 0 then (if W.1 10 (120 + 8 * x.toNatClampNeg + 0) + z ≤ nI 200 then (wset (wset (wset W 10 (upd (upd (W.1 10) (120 + 8 * x.toNatClampNeg + 0) (W.1 10 (120 + 8 * x.toNatClampNeg + 0) + z)) 225 (W.1 10 225 + z))) 11 (s_keepP (W.1 10) (W.1 11) u)) 15 (upd (W.1 15) 0 (nI (s_u u)))) else W) else W) else W) else W))) := by
  refine Cr_of [some (.ref (γ.1 + 86)), some (.int x), some (.int z)] (by decide +kernel) (Nat.le_of_ble_eq_true rfl) rfl ?_
  intro p e s m args below meth c X
  refine v_aload_n X rfl dX7_load_0 ?_
  refine v_iload_n X rfl dX7_load_1 ?_
  refine v_callV (ci := 8) X mv_X7_86 (c_X7_isWagon' l γ _ cn (by exact hcn) h1 h6 _) rfl rfl (rd_Model γ _) rfl ⟨Nat.le_of_ble_eq_true rfl, Nat.le_of_ble_eq_true rfl, Nat.le_of_ble_eq_true rfl, Nat.le_of_ble_eq_true rfl⟩ (Nat.le_of_ble_eq_true rfl) rfl dX7_load_2 rfl (det_i ?_)
  refine v_if_eq_b (tgt := 19) X dX7_load_5 (by decide) (fun q1 => ?_) (fun q1 => ?_)
  · refine v_sipush' X ks_m1002 dX7_load_19 ?_
    exact v_iret X rfl (Nat.le_of_ble_eq_true rfl) (Nat.le_of_ble_eq_true rfl) dX7_load_22 ⟨so_some (by first | rw [if_neg q1] | rw [if_pos q1, if_neg q2] | rw [if_pos q1, if_pos q2, if_neg q3] | rw [if_pos q1, if_pos q2, if_pos q3, ej, if_neg q4] | (rw [if_pos q1, if_pos q2, if_pos q3, ej, if_pos q4, pk_un (by omega), pk_us])), congrArg (rdw γ) (by first | rw [if_neg q1] | rw [if_pos q1, if_neg q2] | rw [if_pos q1, if_pos q2, if_neg q3] | rw [if_pos q1, if_pos q2, if_pos q3, ej, if_neg q4] | (rw [if_pos q1, if_pos q2, if_pos q3, ej, if_pos q4, pk_un (j := 225) (by omega)]))⟩
  · obtain ⟨j, hj, rfl⟩ := in_nat (by omega) q1
    have ej : (nI j).toNatClampNeg = j := nI_clamp (by omega)
    refine v_iload_n X rfl dX7_load_8 ?_
    refine v_iconst' X kc_1 dX7_load_9 ?_
    refine v_sipush' X ks_200 dX7_load_10 ?_
    refine v_callS X ms_X7_29 (c_X7_in l γ _ _ _ _) rfl ⟨Nat.le_of_ble_eq_true rfl, Nat.le_of_ble_eq_true rfl, Nat.le_of_ble_eq_true rfl, Nat.le_of_ble_eq_true rfl⟩ (Nat.le_of_ble_eq_true rfl) rfl dX7_load_13 rfl (det_i ?_)
    refine v_if_ne_b (tgt := 23) X dX7_load_16 (by decide) (fun q2 => ?_) (fun q2 => ?_)
    · refine v_aload_n X rfl dX7_load_23 ?_
      refine v_getf X fd_X7_7 (rd_Model γ _) rfl dX7_load_24 ?_
      refine v_sipush' X ks_220 dX7_load_27 ?_
      refine v_iald' X (v := ((W.1 10) (220))) (rd_M γ _) (220) rfl (by omega) (by decide) (vw_at (by omega)) dX7_load_30 ?_
      refine v_if_eq (tgt := 38) X dX7_load_31 (by decide) (fun q3 => ?_) (fun q3 => ?_)
      · refine v_aload_n X rfl dX7_load_38 ?_
        refine v_iload_n X rfl dX7_load_39 ?_
        refine v_iconst' X kc_0 dX7_load_40 ?_
        refine v_callV (ci := 8) X mv_X7_90 (c_X7_of' l γ _ j 0 (by omega)) rfl rfl (rd_Model γ _) rfl ⟨Nat.le_of_ble_eq_true rfl, Nat.le_of_ble_eq_true rfl, Nat.le_of_ble_eq_true rfl, Nat.le_of_ble_eq_true rfl⟩ (Nat.le_of_ble_eq_true rfl) rfl dX7_load_41 rfl (det_i ?_)
        try simp (disch := decide) only [ws_11_10, ws_12_10, ws_12_11, ws_13_10, ws_13_11, ws_13_12, ws_14_10, ws_14_11, ws_14_12, ws_14_13, ws_15_10, ws_15_11, ws_15_12, ws_15_13, ws_15_14, wset_wset, ws_same, ws_ne, wh_ws]
        refine v_iload_n X rfl dX7_load_44 ?_
        refine v_iadd X dX7_load_45 ?_
        refine v_sipush' X ks_200 dX7_load_46 ?_
        refine v_icmp_le (tgt := 56) X dX7_load_49 (by decide) (fun q4 => ?_) (fun q4 => ?_)
        · refine v_aload_n X rfl dX7_load_56 ?_
          refine v_callV (ci := 8) X mv_X7_124 (c_X7_keeps l γ _ u (by exact hu) h6u) rfl rfl (rd_Model γ _) rfl ⟨Nat.le_of_ble_eq_true rfl, Nat.le_of_ble_eq_true rfl, Nat.le_of_ble_eq_true rfl, Nat.le_of_ble_eq_true rfl⟩ (Nat.le_of_ble_eq_true rfl) rfl dX7_load_57 rfl (det_v ?_)
          try simp (disch := decide) only [ws_11_10, ws_12_10, ws_12_11, ws_13_10, ws_13_11, ws_13_12, ws_14_10, ws_14_11, ws_14_12, ws_14_13, ws_15_10, ws_15_11, ws_15_12, ws_15_13, ws_15_14, wset_wset, ws_same, ws_ne, wh_ws]
          refine v_aload_n X rfl dX7_load_60 ?_
          refine v_iload_n X rfl dX7_load_61 ?_
          refine v_iconst' X kc_0 dX7_load_62 ?_
          refine v_aload_n X rfl dX7_load_63 ?_
          refine v_iload_n X rfl dX7_load_64 ?_
          refine v_iconst' X kc_0 dX7_load_65 ?_
          refine v_callV (ci := 8) X mv_X7_90 (c_X7_of' l γ _ j 0 (by omega)) rfl rfl (rd_Model γ _) rfl ⟨Nat.le_of_ble_eq_true rfl, Nat.le_of_ble_eq_true rfl, Nat.le_of_ble_eq_true rfl, Nat.le_of_ble_eq_true rfl⟩ (Nat.le_of_ble_eq_true rfl) rfl dX7_load_66 rfl (det_i ?_)
          try simp (disch := decide) only [ws_11_10, ws_12_10, ws_12_11, ws_13_10, ws_13_11, ws_13_12, ws_14_10, ws_14_11, ws_14_12, ws_14_13, ws_15_10, ws_15_11, ws_15_12, ws_15_13, ws_15_14, wset_wset, ws_same, ws_ne, wh_ws]
          refine v_iload_n X rfl dX7_load_69 ?_
          refine v_iadd X dX7_load_70 ?_
          refine v_callV (ci := 8) X mv_X7_33 (c_X7_put' l γ _ j 0 (by omega) _) rfl rfl (rd_Model γ _) rfl ⟨Nat.le_of_ble_eq_true rfl, Nat.le_of_ble_eq_true rfl, Nat.le_of_ble_eq_true rfl, Nat.le_of_ble_eq_true rfl⟩ (Nat.le_of_ble_eq_true rfl) rfl dX7_load_71 rfl (det_v ?_)
          try simp (disch := decide) only [ws_11_10, ws_12_10, ws_12_11, ws_13_10, ws_13_11, ws_13_12, ws_14_10, ws_14_11, ws_14_12, ws_14_13, ws_15_10, ws_15_11, ws_15_12, ws_15_13, ws_15_14, wset_wset, ws_same, ws_ne, wh_ws]
          refine v_aload_n X rfl dX7_load_74 ?_
          refine v_getf X fd_X7_7 (rd_Model γ _) rfl dX7_load_75 ?_
          refine v_sipush' X ks_225 dX7_load_78 ?_
          refine v_dup2 X rfl rfl dX7_load_81 ?_
          refine v_iald' X (v := ((upd (W.1 10) (120 + 8 * j + 0) (((W.1 10) (120 + 8 * j + 0)) + z)) (225))) (rd_M γ _) (225) rfl (by omega) (by decide) (vw_at (by omega)) dX7_load_82 ?_
          refine v_iload_n X rfl dX7_load_83 ?_
          refine v_iadd X dX7_load_84 ?_
          refine v_iast X (rd_M γ _) (225) rfl (by omega) (by decide) dX7_load_85 ?_
          refine v_eqh (uq_M γ _ (by omega) _) ?_
          try simp (disch := decide) only [ws_11_10, ws_12_10, ws_12_11, ws_13_10, ws_13_11, ws_13_12, ws_14_10, ws_14_11, ws_14_12, ws_14_13, ws_15_10, ws_15_11, ws_15_12, ws_15_13, ws_15_14, wset_wset, ws_same, ws_ne, wh_ws]
          refine v_aload_n X rfl dX7_load_86 ?_
          refine v_iload_n X rfl dX7_load_87 ?_
          refine v_iconst' X kc_0 dX7_load_88 ?_
          refine v_callV (ci := 8) X mv_X7_90 (c_X7_of' l γ _ j 0 (by omega)) rfl rfl (rd_Model γ _) rfl ⟨Nat.le_of_ble_eq_true rfl, Nat.le_of_ble_eq_true rfl, Nat.le_of_ble_eq_true rfl, Nat.le_of_ble_eq_true rfl⟩ (Nat.le_of_ble_eq_true rfl) rfl dX7_load_89 rfl (det_i ?_)
          try simp (disch := decide) only [ws_11_10, ws_12_10, ws_12_11, ws_13_10, ws_13_11, ws_13_12, ws_14_10, ws_14_11, ws_14_12, ws_14_13, ws_15_10, ws_15_11, ws_15_12, ws_15_13, ws_15_14, wset_wset, ws_same, ws_ne, wh_ws]
          exact v_iret X rfl (Nat.le_of_ble_eq_true rfl) (Nat.le_of_ble_eq_true rfl) dX7_load_92 ⟨so_some (by first | rw [if_neg q1] | rw [if_pos q1, if_neg q2] | rw [if_pos q1, if_pos q2, if_neg q3] | rw [if_pos q1, if_pos q2, if_pos q3, ej, if_neg q4] | (rw [if_pos q1, if_pos q2, if_pos q3, ej, if_pos q4, pk_un (by omega), pk_us])), congrArg (rdw γ) (by first | rw [if_neg q1] | rw [if_pos q1, if_neg q2] | rw [if_pos q1, if_pos q2, if_neg q3] | rw [if_pos q1, if_pos q2, if_pos q3, ej, if_neg q4] | (rw [if_pos q1, if_pos q2, if_pos q3, ej, if_pos q4, pk_un (j := 225) (by omega)]))⟩
        · refine v_sipush' X ks_m1004 dX7_load_52 ?_
          exact v_iret X rfl (Nat.le_of_ble_eq_true rfl) (Nat.le_of_ble_eq_true rfl) dX7_load_55 ⟨so_some (by first | rw [if_neg q1] | rw [if_pos q1, if_neg q2] | rw [if_pos q1, if_pos q2, if_neg q3] | rw [if_pos q1, if_pos q2, if_pos q3, ej, if_neg q4] | (rw [if_pos q1, if_pos q2, if_pos q3, ej, if_pos q4, pk_un (by omega), pk_us])), congrArg (rdw γ) (by first | rw [if_neg q1] | rw [if_pos q1, if_neg q2] | rw [if_pos q1, if_pos q2, if_neg q3] | rw [if_pos q1, if_pos q2, if_pos q3, ej, if_neg q4] | (rw [if_pos q1, if_pos q2, if_pos q3, ej, if_pos q4, pk_un (j := 225) (by omega)]))⟩
      · refine v_sipush' X ks_m1003 dX7_load_34 ?_
        exact v_iret X rfl (Nat.le_of_ble_eq_true rfl) (Nat.le_of_ble_eq_true rfl) dX7_load_37 ⟨so_some (by first | rw [if_neg q1] | rw [if_pos q1, if_neg q2] | rw [if_pos q1, if_pos q2, if_neg q3] | rw [if_pos q1, if_pos q2, if_pos q3, ej, if_neg q4] | (rw [if_pos q1, if_pos q2, if_pos q3, ej, if_pos q4, pk_un (by omega), pk_us])), congrArg (rdw γ) (by first | rw [if_neg q1] | rw [if_pos q1, if_neg q2] | rw [if_pos q1, if_pos q2, if_neg q3] | rw [if_pos q1, if_pos q2, if_pos q3, ej, if_neg q4] | (rw [if_pos q1, if_pos q2, if_pos q3, ej, if_pos q4, pk_un (j := 225) (by omega)]))⟩
    · refine v_sipush' X ks_m1002 dX7_load_19 ?_
      exact v_iret X rfl (Nat.le_of_ble_eq_true rfl) (Nat.le_of_ble_eq_true rfl) dX7_load_22 ⟨so_some (by first | rw [if_neg q1] | rw [if_pos q1, if_neg q2] | rw [if_pos q1, if_pos q2, if_neg q3] | rw [if_pos q1, if_pos q2, if_pos q3, ej, if_neg q4] | (rw [if_pos q1, if_pos q2, if_pos q3, ej, if_pos q4, pk_un (by omega), pk_us])), congrArg (rdw γ) (by first | rw [if_neg q1] | rw [if_pos q1, if_neg q2] | rw [if_pos q1, if_pos q2, if_neg q3] | rw [if_pos q1, if_pos q2, if_pos q3, ej, if_neg q4] | (rw [if_pos q1, if_pos q2, if_pos q3, ej, if_pos q4, pk_un (j := 225) (by omega)]))⟩
set_option maxHeartbeats 4000000 in
set_option maxRecDepth 100000 in
theorem c_X7_door (l : Launch) (γ : Gm) (W : Wd) (u : Nat) (hu : W.1 15 0 = nI u) (h6u : u ≤ 6) (cn : Nat) (hcn : W.1 10 218 = nI cn) (h1 : 1 ≤ cn) (h6 : cn ≤ 6) (x y z : Int32) : Cr l γ yX7_door cX7_door 5 (some .int) 2 46 0 0 [.ref (γ.1 + 86), .int x, .int y, .int z] (rdw γ W) (Det (some (.int (if ¬ x < nI 0 ∧ ¬ nI (cn - 1) < x then (if ¬ y < nI 0 ∧ ¬ nI 2 < y then (if ¬ z < nI 0 ∧ ¬ nI 3 < z then (W.1 10 (120 + 8 * x.toNatClampNeg + (2 + y.toNatClampNeg))) else (-1002)) else (-1002)) else (-1002)))) (rdw γ (if ¬ x < nI 0 ∧ ¬ nI (cn - 1) < x then (if ¬ y < nI 0 ∧ ¬ nI 2 < y then (if ¬ z < nI 0 ∧ ¬ nI 3 < z then (wset (wset (wset W 10 (q_moves (W.1 10) x.toNatClampNeg y.toNatClampNeg z)) 11 (s_keepP (W.1 10) (W.1 11) u)) 15 (upd (W.1 15) 0 (nI (s_u u)))) else W) else W) else W))) := by
  refine Cr_of [some (.ref (γ.1 + 86)), some (.int x), some (.int y), some (.int z), none] (by decide +kernel) (Nat.le_of_ble_eq_true rfl) rfl ?_
  intro p e s m args below meth c X
  refine v_aload_n X rfl dX7_door_0 ?_
  refine v_iload_n X rfl dX7_door_1 ?_
  refine v_callV (ci := 8) X mv_X7_86 (c_X7_isWagon' l γ _ cn (by exact hcn) h1 h6 _) rfl rfl (rd_Model γ _) rfl ⟨Nat.le_of_ble_eq_true rfl, Nat.le_of_ble_eq_true rfl, Nat.le_of_ble_eq_true rfl, Nat.le_of_ble_eq_true rfl⟩ (Nat.le_of_ble_eq_true rfl) rfl dX7_door_2 rfl (det_i ?_)
  refine v_if_eq_b (tgt := 24) X dX7_door_5 (by decide) (fun q1 => ?_) (fun q1 => ?_)
  · refine v_sipush' X ks_m1002 dX7_door_24 ?_
    exact v_iret X rfl (Nat.le_of_ble_eq_true rfl) (Nat.le_of_ble_eq_true rfl) dX7_door_27 ⟨so_some (by first | rw [if_neg q1] | rw [if_pos q1, if_neg q2] | rw [if_pos q1, if_pos q2, if_neg q3] | rw [if_pos q1, if_pos q2, if_pos q3, ej, ei]), congrArg (rdw γ) (by first | rw [if_neg q1] | rw [if_pos q1, if_neg q2] | rw [if_pos q1, if_pos q2, if_neg q3] | rw [if_pos q1, if_pos q2, if_pos q3, ej, ei])⟩
  · obtain ⟨j, hj, rfl⟩ := in_nat (by omega) q1
    have ej : (nI j).toNatClampNeg = j := nI_clamp (by omega)
    refine v_iload_n X rfl dX7_door_8 ?_
    refine v_callS X ms_X7_130 (c_X7_isStrip l γ _ _) rfl ⟨Nat.le_of_ble_eq_true rfl, Nat.le_of_ble_eq_true rfl, Nat.le_of_ble_eq_true rfl, Nat.le_of_ble_eq_true rfl⟩ (Nat.le_of_ble_eq_true rfl) rfl dX7_door_9 rfl (det_i ?_)
    refine v_if_eq_b (tgt := 24) X dX7_door_12 (by decide) (fun q2 => ?_) (fun q2 => ?_)
    · refine v_sipush' X ks_m1002 dX7_door_24 ?_
      exact v_iret X rfl (Nat.le_of_ble_eq_true rfl) (Nat.le_of_ble_eq_true rfl) dX7_door_27 ⟨so_some (by first | rw [if_neg q1] | rw [if_pos q1, if_neg q2] | rw [if_pos q1, if_pos q2, if_neg q3] | rw [if_pos q1, if_pos q2, if_pos q3, ej, ei]), congrArg (rdw γ) (by first | rw [if_neg q1] | rw [if_pos q1, if_neg q2] | rw [if_pos q1, if_pos q2, if_neg q3] | rw [if_pos q1, if_pos q2, if_pos q3, ej, ei])⟩
    · obtain ⟨i, hi, rfl⟩ := in_nat (by omega) q2
      have ei : (nI i).toNatClampNeg = i := nI_clamp (by omega)
      refine v_iload_n X rfl dX7_door_15 ?_
      refine v_iconst' X kc_0 dX7_door_16 ?_
      refine v_iconst' X kc_3 dX7_door_17 ?_
      refine v_callS X ms_X7_29 (c_X7_in l γ _ _ _ _) rfl ⟨Nat.le_of_ble_eq_true rfl, Nat.le_of_ble_eq_true rfl, Nat.le_of_ble_eq_true rfl, Nat.le_of_ble_eq_true rfl⟩ (Nat.le_of_ble_eq_true rfl) rfl dX7_door_18 rfl (det_i ?_)
      refine v_if_ne_b (tgt := 28) X dX7_door_21 (by decide) (fun q3 => ?_) (fun q3 => ?_)
      · refine v_aload_n X rfl dX7_door_28 ?_
        refine v_callV (ci := 8) X mv_X7_124 (c_X7_keeps l γ _ u (by exact hu) h6u) rfl rfl (rd_Model γ _) rfl ⟨Nat.le_of_ble_eq_true rfl, Nat.le_of_ble_eq_true rfl, Nat.le_of_ble_eq_true rfl, Nat.le_of_ble_eq_true rfl⟩ (Nat.le_of_ble_eq_true rfl) rfl dX7_door_29 rfl (det_v ?_)
        try simp (disch := decide) only [ws_11_10, ws_12_10, ws_12_11, ws_13_10, ws_13_11, ws_13_12, ws_14_10, ws_14_11, ws_14_12, ws_14_13, ws_15_10, ws_15_11, ws_15_12, ws_15_13, ws_15_14, wset_wset, ws_same, ws_ne, wh_ws]
        refine v_aload_n X rfl dX7_door_32 ?_
        refine v_iload_n X rfl dX7_door_33 ?_
        refine v_iconst' X kc_2 dX7_door_34 ?_
        refine v_iload_n X rfl dX7_door_35 ?_
        refine v_iadd' X (nI_add _ _) dX7_door_36 ?_
        refine v_callV (ci := 8) X mv_X7_90 (c_X7_of' l γ _ j ((2 + i)) (by omega)) rfl rfl (rd_Model γ _) rfl ⟨Nat.le_of_ble_eq_true rfl, Nat.le_of_ble_eq_true rfl, Nat.le_of_ble_eq_true rfl, Nat.le_of_ble_eq_true rfl⟩ (Nat.le_of_ble_eq_true rfl) rfl dX7_door_37 rfl (det_i ?_)
        try simp (disch := decide) only [ws_11_10, ws_12_10, ws_12_11, ws_13_10, ws_13_11, ws_13_12, ws_14_10, ws_14_11, ws_14_12, ws_14_13, ws_15_10, ws_15_11, ws_15_12, ws_15_13, ws_15_14, wset_wset, ws_same, ws_ne, wh_ws]
        refine v_istore X (Nat.le_of_ble_eq_true rfl) rfl dX7_door_40 ?_
        refine v_aload_n X rfl dX7_door_42 ?_
        refine v_iload_n X rfl dX7_door_43 ?_
        refine v_iload_n X rfl dX7_door_44 ?_
        refine v_iload_n X rfl dX7_door_45 ?_
        refine v_callV (ci := 8) X mv_X7_96 (c_X7_moves' l γ _ j i (by omega) (by omega) _) rfl rfl (rd_Model γ _) rfl ⟨Nat.le_of_ble_eq_true rfl, Nat.le_of_ble_eq_true rfl, Nat.le_of_ble_eq_true rfl, Nat.le_of_ble_eq_true rfl⟩ (Nat.le_of_ble_eq_true rfl) rfl dX7_door_46 rfl (det_v ?_)
        try simp (disch := decide) only [ws_11_10, ws_12_10, ws_12_11, ws_13_10, ws_13_11, ws_13_12, ws_14_10, ws_14_11, ws_14_12, ws_14_13, ws_15_10, ws_15_11, ws_15_12, ws_15_13, ws_15_14, wset_wset, ws_same, ws_ne, wh_ws]
        refine v_iload X rfl dX7_door_49 ?_
        exact v_iret X rfl (Nat.le_of_ble_eq_true rfl) (Nat.le_of_ble_eq_true rfl) dX7_door_51 ⟨so_some (by first | rw [if_neg q1] | rw [if_pos q1, if_neg q2] | rw [if_pos q1, if_pos q2, if_neg q3] | rw [if_pos q1, if_pos q2, if_pos q3, ej, ei]), congrArg (rdw γ) (by first | rw [if_neg q1] | rw [if_pos q1, if_neg q2] | rw [if_pos q1, if_pos q2, if_neg q3] | rw [if_pos q1, if_pos q2, if_pos q3, ej, ei])⟩
      · refine v_sipush' X ks_m1002 dX7_door_24 ?_
        exact v_iret X rfl (Nat.le_of_ble_eq_true rfl) (Nat.le_of_ble_eq_true rfl) dX7_door_27 ⟨so_some (by first | rw [if_neg q1] | rw [if_pos q1, if_neg q2] | rw [if_pos q1, if_pos q2, if_neg q3] | rw [if_pos q1, if_pos q2, if_pos q3, ej, ei]), congrArg (rdw γ) (by first | rw [if_neg q1] | rw [if_pos q1, if_neg q2] | rw [if_pos q1, if_pos q2, if_neg q3] | rw [if_pos q1, if_pos q2, if_pos q3, ej, ei])⟩
set_option maxHeartbeats 4000000 in
set_option maxRecDepth 100000 in
theorem c_X7_wish (l : Launch) (γ : Gm) (W : Wd) (u : Nat) (hu : W.1 15 0 = nI u) (h6u : u ≤ 6) (x : Int32) : Cr l γ yX7_wish cX7_wish 3 (some .int) 1 22 0 0 [.ref (γ.1 + 86), .int x] (rdw γ W) (Det (some (.int (if ¬ x < nI 0 ∧ ¬ nI 3 < x then (W.1 10 221) else (-1002)))) (rdw γ (if ¬ x < nI 0 ∧ ¬ nI 3 < x then (wset (wset (wset W 10 (upd (W.1 10) 221 x)) 11 (s_keepP (W.1 10) (W.1 11) u)) 15 (upd (W.1 15) 0 (nI (s_u u)))) else W))) := by
  refine Cr_of [some (.ref (γ.1 + 86)), some (.int x), none] (by decide +kernel) (Nat.le_of_ble_eq_true rfl) rfl ?_
  intro p e s m args below meth c X
  refine v_iload_n X rfl dX7_wish_0 ?_
  refine v_iconst' X kc_0 dX7_wish_1 ?_
  refine v_iconst' X kc_3 dX7_wish_2 ?_
  refine v_callS X ms_X7_29 (c_X7_in l γ _ _ _ _) rfl ⟨Nat.le_of_ble_eq_true rfl, Nat.le_of_ble_eq_true rfl, Nat.le_of_ble_eq_true rfl, Nat.le_of_ble_eq_true rfl⟩ (Nat.le_of_ble_eq_true rfl) rfl dX7_wish_3 rfl (det_i ?_)
  refine v_if_ne_b (tgt := 13) X dX7_wish_6 (by decide) (fun q1 => ?_) (fun q1 => ?_)
  · refine v_aload_n X rfl dX7_wish_13 ?_
    refine v_callV (ci := 8) X mv_X7_124 (c_X7_keeps l γ _ u (by exact hu) h6u) rfl rfl (rd_Model γ _) rfl ⟨Nat.le_of_ble_eq_true rfl, Nat.le_of_ble_eq_true rfl, Nat.le_of_ble_eq_true rfl, Nat.le_of_ble_eq_true rfl⟩ (Nat.le_of_ble_eq_true rfl) rfl dX7_wish_14 rfl (det_v ?_)
    try simp (disch := decide) only [ws_11_10, ws_12_10, ws_12_11, ws_13_10, ws_13_11, ws_13_12, ws_14_10, ws_14_11, ws_14_12, ws_14_13, ws_15_10, ws_15_11, ws_15_12, ws_15_13, ws_15_14, wset_wset, ws_same, ws_ne, wh_ws]
    refine v_aload_n X rfl dX7_wish_17 ?_
    refine v_getf X fd_X7_7 (rd_Model γ _) rfl dX7_wish_18 ?_
    refine v_sipush' X ks_221 dX7_wish_21 ?_
    refine v_iald' X (v := ((W.1 10) (221))) (rd_M γ _) (221) rfl (by omega) (by decide) (vw_at (by omega)) dX7_wish_24 ?_
    refine v_istore_n X (Nat.le_of_ble_eq_true rfl) rfl dX7_wish_25 ?_
    refine v_aload_n X rfl dX7_wish_26 ?_
    refine v_getf X fd_X7_7 (rd_Model γ _) rfl dX7_wish_27 ?_
    refine v_sipush' X ks_221 dX7_wish_30 ?_
    refine v_iload_n X rfl dX7_wish_33 ?_
    refine v_iast X (rd_M γ _) (221) rfl (by omega) (by decide) dX7_wish_34 ?_
    refine v_eqh (uq_M γ _ (by omega) _) ?_
    try simp (disch := decide) only [ws_11_10, ws_12_10, ws_12_11, ws_13_10, ws_13_11, ws_13_12, ws_14_10, ws_14_11, ws_14_12, ws_14_13, ws_15_10, ws_15_11, ws_15_12, ws_15_13, ws_15_14, wset_wset, ws_same, ws_ne, wh_ws]
    refine v_iload_n X rfl dX7_wish_35 ?_
    exact v_iret X rfl (Nat.le_of_ble_eq_true rfl) (Nat.le_of_ble_eq_true rfl) dX7_wish_36 ⟨so_some (by first | (rw [if_neg q1]) | (rw [if_pos q1])), congrArg (rdw γ) (by first | (rw [if_neg q1]) | (rw [if_pos q1]))⟩
  · refine v_sipush' X ks_m1002 dX7_wish_9 ?_
    exact v_iret X rfl (Nat.le_of_ble_eq_true rfl) (Nat.le_of_ble_eq_true rfl) dX7_wish_12 ⟨so_some (by first | (rw [if_neg q1]) | (rw [if_pos q1])), congrArg (rdw γ) (by first | (rw [if_neg q1]) | (rw [if_pos q1]))⟩
set_option maxHeartbeats 4000000 in
set_option maxRecDepth 100000 in
theorem c_X7_cancel (l : Launch) (γ : Gm) (W : Wd) (u : Nat) (hu : W.1 15 0 = nI u) (h6u : u ≤ 6) (q : Nat) (hq : W.1 10 223 = nI q) (h10 : q ≤ 10) (x : Int32) : Cr l γ yX7_cancel cX7_cancel 2 (some .int) 1 22 0 0 [.ref (γ.1 + 86), .int x] (rdw γ W) (Det (some (.int (if ¬ x < nI 0 ∧ ¬ (nI q - nI 1) < x then (nI (q - 1)) else (-1002)))) (rdw γ (if ¬ x < nI 0 ∧ ¬ (nI q - nI 1) < x then (wset (wset (wset W 10 (q_drop (W.1 10) (q - 1) x.toNatClampNeg)) 11 (s_keepP (W.1 10) (W.1 11) u)) 15 (upd (W.1 15) 0 (nI (s_u u)))) else W))) := by
  refine Cr_of [some (.ref (γ.1 + 86)), some (.int x)] (by decide +kernel) (Nat.le_of_ble_eq_true rfl) rfl ?_
  intro p e s m args below meth c X
  refine v_iload_n X rfl dX7_cancel_0 ?_
  refine v_iconst' X kc_0 dX7_cancel_1 ?_
  refine v_aload_n X rfl dX7_cancel_2 ?_
  refine v_getf X fd_X7_7 (rd_Model γ _) rfl dX7_cancel_3 ?_
  refine v_sipush' X ks_223 dX7_cancel_6 ?_
  refine v_iald' X (v := nI q) (rd_M γ _) (223) rfl (by omega) (by decide) ((vw_at (by omega)).trans hq) dX7_cancel_9 ?_
  refine v_iconst' X kc_1 dX7_cancel_10 ?_
  refine v_isub X dX7_cancel_11 ?_
  refine v_callS X ms_X7_29 (c_X7_in l γ _ _ _ _) rfl ⟨Nat.le_of_ble_eq_true rfl, Nat.le_of_ble_eq_true rfl, Nat.le_of_ble_eq_true rfl, Nat.le_of_ble_eq_true rfl⟩ (Nat.le_of_ble_eq_true rfl) rfl dX7_cancel_12 rfl (det_i ?_)
  refine v_if_ne_b (tgt := 22) X dX7_cancel_15 (by decide) (fun q1 => ?_) (fun q1 => ?_)
  · have q3 : 1 ≤ q := qpos q x q1
    rw [pk_sub q3] at q1
    obtain ⟨j, hj, rfl⟩ := in_nat (by omega) q1
    rw [← pk_sub q3] at q1
    have ej : (nI j).toNatClampNeg = j := nI_clamp (by omega)
    have hq9 : W.1 10 223 = nI (q - 1 + 1) := by rw [hq]; congr 1; omega
    refine v_aload_n X rfl dX7_cancel_22 ?_
    refine v_callV (ci := 8) X mv_X7_124 (c_X7_keeps l γ _ u (by exact hu) h6u) rfl rfl (rd_Model γ _) rfl ⟨Nat.le_of_ble_eq_true rfl, Nat.le_of_ble_eq_true rfl, Nat.le_of_ble_eq_true rfl, Nat.le_of_ble_eq_true rfl⟩ (Nat.le_of_ble_eq_true rfl) rfl dX7_cancel_23 rfl (det_v ?_)
    try simp (disch := decide) only [ws_11_10, ws_12_10, ws_12_11, ws_13_10, ws_13_11, ws_13_12, ws_14_10, ws_14_11, ws_14_12, ws_14_13, ws_15_10, ws_15_11, ws_15_12, ws_15_13, ws_15_14, wset_wset, ws_same, ws_ne, wh_ws]
    refine v_aload_n X rfl dX7_cancel_26 ?_
    refine v_iload_n X rfl dX7_cancel_27 ?_
    refine v_callV (ci := 8) X mv_X7_99 (c_X7_dropsOrder' l γ _ (q - 1) j (by exact hq9) (by omega) (by omega)) rfl rfl (rd_Model γ _) rfl ⟨Nat.le_of_ble_eq_true rfl, Nat.le_of_ble_eq_true rfl, Nat.le_of_ble_eq_true rfl, Nat.le_of_ble_eq_true rfl⟩ (Nat.le_of_ble_eq_true rfl) rfl dX7_cancel_28 rfl (det_v ?_)
    try simp (disch := decide) only [ws_11_10, ws_12_10, ws_12_11, ws_13_10, ws_13_11, ws_13_12, ws_14_10, ws_14_11, ws_14_12, ws_14_13, ws_15_10, ws_15_11, ws_15_12, ws_15_13, ws_15_14, wset_wset, ws_same, ws_ne, wh_ws]
    refine v_aload_n X rfl dX7_cancel_31 ?_
    refine v_getf X fd_X7_7 (rd_Model γ _) rfl dX7_cancel_32 ?_
    refine v_sipush' X ks_223 dX7_cancel_35 ?_
    refine v_iald' X (v := nI (q - 1)) (rd_M γ _) (223) rfl (by omega) (by decide) ((vw_at (by omega)).trans (q_drop223 (W.1 10) (q - 1) j _ (by omega))) dX7_cancel_38 ?_
    exact v_iret X rfl (Nat.le_of_ble_eq_true rfl) (Nat.le_of_ble_eq_true rfl) dX7_cancel_39 ⟨so_some (by first | rw [if_neg q1] | rw [if_pos q1]), congrArg (rdw γ) (by first | rw [if_neg q1] | rw [if_pos q1, ej])⟩
  · refine v_sipush' X ks_m1002 dX7_cancel_18 ?_
    exact v_iret X rfl (Nat.le_of_ble_eq_true rfl) (Nat.le_of_ble_eq_true rfl) dX7_cancel_21 ⟨so_some (by first | rw [if_neg q1] | rw [if_pos q1]), congrArg (rdw γ) (by first | rw [if_neg q1] | rw [if_pos q1, ej])⟩
