set_option maxHeartbeats 4000000 in
set_option maxRecDepth 100000 in
theorem c_X7_in (l : Launch) (γ : Gm) (h : HP) (v a b : Int32) : Cr l γ yX7_in cX7_in 3 (some .boolean) 0 0 0 0 [.int v, .int a, .int b] (h) (Det (some (.int (bi (¬ v < a ∧ ¬ b < v)))) h) := by
  refine Cr_of [some (.int v), some (.int a), some (.int b)] (by decide +kernel) (Nat.le_of_ble_eq_true rfl) rfl ?_
  intro p e s m args below meth c X
  refine v_iload_n X rfl dX7_in_0 ?_
  refine v_iload_n X rfl dX7_in_1 ?_
  refine v_icmp_lt (tgt := 14) X dX7_in_2 (by decide) (fun c_1 => ?_) (fun c_1 => ?_)
  · refine v_iconst' X kc_0 dX7_in_14 ?_
    exact v_zret X rfl rfl (Nat.le_of_ble_eq_true rfl) (Nat.le_of_ble_eq_true rfl) dX7_in_15 ⟨so_some (by first | exact bi_t ⟨c_1, c_2⟩ | exact bi_f (fun z => z.1 c_1) | exact bi_f (fun z => z.2 c_2)), rfl⟩
  · refine v_iload_n X rfl dX7_in_5 ?_
    refine v_iload_n X rfl dX7_in_6 ?_
    refine v_icmp_gt (tgt := 14) X dX7_in_7 (by decide) (fun c_2 => ?_) (fun c_2 => ?_)
    · refine v_iconst' X kc_0 dX7_in_14 ?_
      exact v_zret X rfl rfl (Nat.le_of_ble_eq_true rfl) (Nat.le_of_ble_eq_true rfl) dX7_in_15 ⟨so_some (by first | exact bi_t ⟨c_1, c_2⟩ | exact bi_f (fun z => z.1 c_1) | exact bi_f (fun z => z.2 c_2)), rfl⟩
    · refine v_iconst' X kc_1 dX7_in_10 ?_
      refine v_goto (tgt := 15) X dX7_in_11 (by decide) ?_
      exact v_zret X rfl rfl (Nat.le_of_ble_eq_true rfl) (Nat.le_of_ble_eq_true rfl) dX7_in_15 ⟨so_some (by first | exact bi_t ⟨c_1, c_2⟩ | exact bi_f (fun z => z.1 c_1) | exact bi_f (fun z => z.2 c_2)), rfl⟩
set_option maxHeartbeats 4000000 in
set_option maxRecDepth 100000 in
theorem c_X7_least (l : Launch) (γ : Gm) (h : HP) (a b : Int32) : Cr l γ yX7_least cX7_least 2 (some .int) 0 0 0 0 [.int a, .int b] (h) (Det (some (.int (if a < b then a else b))) h) := by
  refine Cr_of [some (.int a), some (.int b)] (by decide +kernel) (Nat.le_of_ble_eq_true rfl) rfl ?_
  intro p e s m args below meth c X
  refine v_iload_n X rfl dX7_least_0 ?_
  refine v_iload_n X rfl dX7_least_1 ?_
  refine v_icmp_ge (tgt := 9) X dX7_least_2 (by decide) (fun c_1 => ?_) (fun c_1 => ?_)
  · refine v_iload_n X rfl dX7_least_9 ?_
    exact v_iret X rfl (Nat.le_of_ble_eq_true rfl) (Nat.le_of_ble_eq_true rfl) dX7_least_10 ⟨so_some (by first | exact (if_pos (k2_lt c_1)).symm | exact (if_neg (k2_nlt c_1)).symm), rfl⟩
  · refine v_iload_n X rfl dX7_least_5 ?_
    refine v_goto (tgt := 10) X dX7_least_6 (by decide) ?_
    exact v_iret X rfl (Nat.le_of_ble_eq_true rfl) (Nat.le_of_ble_eq_true rfl) dX7_least_10 ⟨so_some (by first | exact (if_pos (k2_lt c_1)).symm | exact (if_neg (k2_nlt c_1)).symm), rfl⟩
set_option maxHeartbeats 4000000 in
set_option maxRecDepth 100000 in
theorem c_X7_isStrip (l : Launch) (γ : Gm) (h : HP) (v : Int32) : Cr l γ yX7_isStrip cX7_isStrip 1 (some .boolean) 1 22 0 0 [.int v] (h) (Det (some (.int (bi (¬ v < nI 0 ∧ ¬ nI 2 < v)))) h) := by
  refine Cr_of [some (.int v)] (by decide +kernel) (Nat.le_of_ble_eq_true rfl) rfl ?_
  intro p e s m args below meth c X
  refine v_iload_n X rfl dX7_isStrip_0 ?_
  refine v_iconst' X kc_0 dX7_isStrip_1 ?_
  refine v_iconst' X kc_2 dX7_isStrip_2 ?_
  refine v_callS X ms_X7_29 (c_X7_in l γ _ _ _ _) rfl ⟨Nat.le_of_ble_eq_true rfl, Nat.le_of_ble_eq_true rfl, Nat.le_of_ble_eq_true rfl, Nat.le_of_ble_eq_true rfl⟩ (Nat.le_of_ble_eq_true rfl) rfl dX7_isStrip_3 rfl (det_i ?_)
  exact v_zret X rfl bi_nar (Nat.le_of_ble_eq_true rfl) (Nat.le_of_ble_eq_true rfl) dX7_isStrip_6 ⟨rfl, rfl⟩
set_option maxHeartbeats 4000000 in
set_option maxRecDepth 100000 in
theorem c_X7_isCell (l : Launch) (γ : Gm) (h : HP) (v : Int32) : Cr l γ yX7_isCell cX7_isCell 1 (some .boolean) 1 22 0 0 [.int v] (h) (Det (some (.int (bi (¬ v < nI 0 ∧ ¬ nI 39 < v)))) h) := by
  refine Cr_of [some (.int v)] (by decide +kernel) (Nat.le_of_ble_eq_true rfl) rfl ?_
  intro p e s m args below meth c X
  refine v_iload_n X rfl dX7_isCell_0 ?_
  refine v_iconst' X kc_0 dX7_isCell_1 ?_
  refine v_bipush' X kb_39 dX7_isCell_2 ?_
  refine v_callS X ms_X7_29 (c_X7_in l γ _ _ _ _) rfl ⟨Nat.le_of_ble_eq_true rfl, Nat.le_of_ble_eq_true rfl, Nat.le_of_ble_eq_true rfl, Nat.le_of_ble_eq_true rfl⟩ (Nat.le_of_ble_eq_true rfl) rfl dX7_isCell_4 rfl (det_i ?_)
  exact v_zret X rfl bi_nar (Nat.le_of_ble_eq_true rfl) (Nat.le_of_ble_eq_true rfl) dX7_isCell_7 ⟨rfl, rfl⟩
set_option maxHeartbeats 4000000 in
set_option maxRecDepth 100000 in
theorem c_X7_isWagon (l : Launch) (γ : Gm) (w : Wd) (M : Nat → Int32) (cn : Nat) (hcn : M 218 = nI cn) (h1 : 1 ≤ cn) (h6 : cn ≤ 6) (v : Int32) : Cr l γ yX7_isWagon cX7_isWagon 2 (some .boolean) 1 22 0 0 [.ref (γ.1 + 86), .int v] (rdw γ (wset w 10 M)) (Det (some (.int (bi (¬ v < nI 0 ∧ ¬ nI (cn - 1) < v)))) (rdw γ (wset w 10 (M)))) := by
  refine Cr_of [some (.ref (γ.1 + 86)), some (.int v)] (by decide +kernel) (Nat.le_of_ble_eq_true rfl) rfl ?_
  intro p e s m args below meth c X
  refine v_iload_n X rfl dX7_isWagon_0 ?_
  refine v_iconst' X kc_0 dX7_isWagon_1 ?_
  refine v_aload_n X rfl dX7_isWagon_2 ?_
  refine v_getf X fd_X7_7 (rd_Model γ _) rfl dX7_isWagon_3 ?_
  refine v_sipush' X ks_218 dX7_isWagon_6 ?_
  refine v_iald' X (v := nI cn) (rd_M γ _) (218) rfl (by omega) (by decide) ((vw_at (by omega)).trans hcn) dX7_isWagon_9 ?_
  refine v_iconst' X kc_1 dX7_isWagon_10 ?_
  refine v_isub' X (v := nI (cn - 1)) (pk_sub h1) dX7_isWagon_11 ?_
  refine v_callS X ms_X7_29 (c_X7_in l γ _ _ _ _) rfl ⟨Nat.le_of_ble_eq_true rfl, Nat.le_of_ble_eq_true rfl, Nat.le_of_ble_eq_true rfl, Nat.le_of_ble_eq_true rfl⟩ (Nat.le_of_ble_eq_true rfl) rfl dX7_isWagon_12 rfl (det_i ?_)
  exact v_zret X rfl bi_nar (Nat.le_of_ble_eq_true rfl) (Nat.le_of_ble_eq_true rfl) dX7_isWagon_15 ⟨rfl, rfl⟩
set_option maxHeartbeats 4000000 in
set_option maxRecDepth 100000 in
theorem c_X7_of (l : Launch) (γ : Gm) (w : Wd) (M : Nat → Int32) (a b : Nat) (hb : 120 + 8 * a + b < 233) : Cr l γ yX7_of cX7_of 3 (some .int) 0 0 0 0 [.ref (γ.1 + 86), .int (nI a), .int (nI b)] (rdw γ (wset w 10 M)) (Det (some (.int (M (120 + 8 * a + b)))) (rdw γ (wset w 10 (M)))) := by
  refine Cr_of [some (.ref (γ.1 + 86)), some (.int (nI a)), some (.int (nI b))] (by decide +kernel) (Nat.le_of_ble_eq_true rfl) rfl ?_
  intro p e s m args below meth c X
  refine v_aload_n X rfl dX7_of_0 ?_
  refine v_getf X fd_X7_7 (rd_Model γ _) rfl dX7_of_1 ?_
  refine v_bipush' X kb_120 dX7_of_4 ?_
  refine v_bipush' X kb_8 dX7_of_6 ?_
  refine v_iload_n X rfl dX7_of_8 ?_
  refine v_imul' X (pk_mul _ _) dX7_of_9 ?_
  refine v_iadd' X (nI_add _ _) dX7_of_10 ?_
  refine v_iload_n X rfl dX7_of_11 ?_
  refine v_iadd' X (nI_add _ _) dX7_of_12 ?_
  refine v_iald' X (v := (M (((120 + (8 * a)) + b)))) (rd_M γ _) (((120 + (8 * a)) + b)) rfl (by omega) (by decide) (vw_at (by omega)) dX7_of_13 ?_
  exact v_iret X rfl (Nat.le_of_ble_eq_true rfl) (Nat.le_of_ble_eq_true rfl) dX7_of_14 ⟨rfl, rfl⟩
set_option maxHeartbeats 4000000 in
set_option maxRecDepth 100000 in
theorem c_X7_put (l : Launch) (γ : Gm) (w : Wd) (M : Nat → Int32) (a b : Nat) (hb : 120 + 8 * a + b < 233) (v : Int32) : Cr l γ yX7_put cX7_put 4 none 0 0 0 0 [.ref (γ.1 + 86), .int (nI a), .int (nI b), .int v] (rdw γ (wset w 10 M)) (Det none (rdw γ (wset w 10 (upd M (120 + 8 * a + b) v)))) := by
  refine Cr_of [some (.ref (γ.1 + 86)), some (.int (nI a)), some (.int (nI b)), some (.int v)] (by decide +kernel) (Nat.le_of_ble_eq_true rfl) rfl ?_
  intro p e s m args below meth c X
  refine v_aload_n X rfl dX7_put_0 ?_
  refine v_getf X fd_X7_7 (rd_Model γ _) rfl dX7_put_1 ?_
  refine v_bipush' X kb_120 dX7_put_4 ?_
  refine v_bipush' X kb_8 dX7_put_6 ?_
  refine v_iload_n X rfl dX7_put_8 ?_
  refine v_imul' X (pk_mul _ _) dX7_put_9 ?_
  refine v_iadd' X (nI_add _ _) dX7_put_10 ?_
  refine v_iload_n X rfl dX7_put_11 ?_
  refine v_iadd' X (nI_add _ _) dX7_put_12 ?_
  refine v_iload_n X rfl dX7_put_13 ?_
  refine v_iast X (rd_M γ _) (((120 + (8 * a)) + b)) rfl (by omega) (by decide) dX7_put_14 ?_
  refine v_eqh (uq_M γ _ (by omega) _) ?_
  simp (disch := decide) only [wset_swap, wset_wset, ws_same, ws_ne, wh_ws]
  exact v_vret X rfl (Nat.le_of_ble_eq_true rfl) (Nat.le_of_ble_eq_true rfl) dX7_put_15 ⟨rfl, rfl⟩
set_option maxHeartbeats 4000000 in
set_option maxRecDepth 100000 in
theorem c_X7_couples (l : Launch) (γ : Gm) (w : Wd) (M : Nat → Int32) (x : Int32) : Cr l γ yX7_couples cX7_couples 4 none 1 23 0 0 [.ref (γ.1 + 86), .int x] (rdw γ (wset w 10 M)) (Det none (rdw γ (wset w 10 (q_couples M x)))) := by
  refine Cr_of [some (.ref (γ.1 + 86)), some (.int x), none, none] (by decide +kernel) (Nat.le_of_ble_eq_true rfl) rfl ?_
  intro p e s m args below meth c X
  refine v_iconst' X kc_0 dX7_couples_0 ?_
  refine v_istore_n X (Nat.le_of_ble_eq_true rfl) rfl dX7_couples_1 ?_
  have lpw : ∀ (n : Nat) (a : Nat), a ≤ 6 ∧ 7 ≤ a + n → V p l e { frames := 1, cells := 0, slots := 0, locals := 23 } s m args below meth c γ (MQ below (Qof γ (Det none (rdw γ (wset w 10 (q_couples M x))))) args s 0 0 (Ag γ)) (rdw γ (wset w 10 (q_clrN M (8 * a)))) 0 0 2 [some (.ref (γ.1 + 86)), some (.int x), some (.int (nI a)), none] [] := by
    intro n
    induction n with
    | zero =>
      intro a hbd
      exact absurd hbd (by omega)
    | succ n ih =>
      intro a hbd
      refine v_iload_n X rfl dX7_couples_2 ?_
      refine v_bipush' X kb_6 dX7_couples_3 ?_
      refine v_icmp_ge_n (tgt := 46) X dX7_couples_5 (by decide) (by omega) (by omega) (fun c_1 => ?_) (fun c_1 => ?_)
      · have ha : a = 6 := by omega
        subst ha
        refine v_aload_n X rfl dX7_couples_46 ?_
        refine v_getf X fd_X7_7 (rd_Model γ _) rfl dX7_couples_47 ?_
        refine v_sipush' X ks_218 dX7_couples_50 ?_
        refine v_iload_n X rfl dX7_couples_53 ?_
        refine v_iast X (rd_M γ _) (218) rfl (by omega) (by decide) dX7_couples_54 ?_
        refine v_eqh (uq_M γ _ (by omega) _) ?_
        simp (disch := decide) only [wset_swap, wset_wset, ws_same, ws_ne, wh_ws]
        refine v_aload_n X rfl dX7_couples_55 ?_
        refine v_getf X fd_X7_7 (rd_Model γ _) rfl dX7_couples_56 ?_
        refine v_sipush' X ks_219 dX7_couples_59 ?_
        refine v_iconst' X kc_m1 dX7_couples_62 ?_
        refine v_iast X (rd_M γ _) (219) rfl (by omega) (by decide) dX7_couples_63 ?_
        refine v_eqh (uq_M γ _ (by omega) _) ?_
        simp (disch := decide) only [wset_swap, wset_wset, ws_same, ws_ne, wh_ws]
        refine v_aload_n X rfl dX7_couples_64 ?_
        refine v_getf X fd_X7_7 (rd_Model γ _) rfl dX7_couples_65 ?_
        refine v_sipush' X ks_220 dX7_couples_68 ?_
        refine v_iconst' X kc_0 dX7_couples_71 ?_
        refine v_iast X (rd_M γ _) (220) rfl (by omega) (by decide) dX7_couples_72 ?_
        refine v_eqh (uq_M γ _ (by omega) _) ?_
        simp (disch := decide) only [wset_swap, wset_wset, ws_same, ws_ne, wh_ws]
        refine v_aload_n X rfl dX7_couples_73 ?_
        refine v_getf X fd_X7_7 (rd_Model γ _) rfl dX7_couples_74 ?_
        refine v_sipush' X ks_221 dX7_couples_77 ?_
        refine v_iconst' X kc_0 dX7_couples_80 ?_
        refine v_iast X (rd_M γ _) (221) rfl (by omega) (by decide) dX7_couples_81 ?_
        refine v_eqh (uq_M γ _ (by omega) _) ?_
        simp (disch := decide) only [wset_swap, wset_wset, ws_same, ws_ne, wh_ws]
        exact v_vret X rfl (Nat.le_of_ble_eq_true rfl) (Nat.le_of_ble_eq_true rfl) dX7_couples_82 ⟨rfl, rfl⟩
      · refine v_iconst' X kc_0 dX7_couples_8 ?_
        refine v_istore_n X (Nat.le_of_ble_eq_true rfl) rfl dX7_couples_9 ?_
        have lpk : ∀ (n2 : Nat) (b : Nat), b ≤ 8 ∧ 9 ≤ b + n2 → V p l e { frames := 1, cells := 0, slots := 0, locals := 23 } s m args below meth c γ (MQ below (Qof γ (Det none (rdw γ (wset w 10 (q_couples M x))))) args s 0 0 (Ag γ)) (rdw γ (wset w 10 (q_clrN M (8 * a + b)))) 0 0 10 [some (.ref (γ.1 + 86)), some (.int x), some (.int (nI a)), some (.int (nI b))] [] := by
          intro n2
          induction n2 with
          | zero =>
            intro b hbd2
            exact absurd hbd2 (by omega)
          | succ n2 ih2 =>
            intro b hbd2
            refine v_iload_n X rfl dX7_couples_10 ?_
            refine v_bipush' X kb_8 dX7_couples_11 ?_
            refine v_icmp_ge_n (tgt := 40) X dX7_couples_13 (by decide) (by omega) (by omega) (fun c_2 => ?_) (fun c_2 => ?_)
            · have hb8 : b = 8 := by omega
              subst hb8
              rw [show 8 * a + 8 = 8 * (a + 1) by omega]
              refine v_iinc' X rfl rfl (nI_inc _) dX7_couples_40 ?_
              refine v_goto (tgt := 2) X dX7_couples_43 (by decide) ?_
              exact v_Ln (ih (a + 1) ⟨by omega, by omega⟩) ⟨Or.inr rfl, Or.inr rfl, Or.inr rfl, Or.inl rfl, trivial⟩
            · refine v_aload_n X rfl dX7_couples_16 ?_
              refine v_iload_n X rfl dX7_couples_17 ?_
              refine v_iload_n X rfl dX7_couples_18 ?_
              refine v_iload_n X rfl dX7_couples_19 ?_
              refine v_iconst' X kc_5 dX7_couples_20 ?_
              refine v_icmp_lt_n (tgt := 30) X dX7_couples_21 (by decide) (by omega) (by omega) (fun c_3 => ?_) (fun c_3 => ?_)
              · refine v_iconst' X kc_0 dX7_couples_30 ?_
                refine v_callV (ci := 8) X mv_X7_33 (c_X7_put l γ _ _ a b (by omega) _) rfl rfl (rd_Model γ _) rfl ⟨Nat.le_of_ble_eq_true rfl, Nat.le_of_ble_eq_true rfl, Nat.le_of_ble_eq_true rfl, Nat.le_of_ble_eq_true rfl⟩ (Nat.le_of_ble_eq_true rfl) rfl dX7_couples_31 rfl (det_v ?_)
                rw [show 120 + 8 * a + b = 120 + (8 * a + b) by omega, q_clrS M (8 * a + b) (by unfold q_cl; first | rw [if_pos (by omega)] | rw [if_neg (by omega)])]
                refine v_iinc' X rfl rfl (nI_inc _) dX7_couples_34 ?_
                refine v_goto (tgt := 10) X dX7_couples_37 (by decide) ?_
                exact (ih2 (b + 1) ⟨by omega, by omega⟩)
              · refine v_sipush' X ks_m1001 dX7_couples_24 ?_
                refine v_goto (tgt := 31) X dX7_couples_27 (by decide) ?_
                refine v_callV (ci := 8) X mv_X7_33 (c_X7_put l γ _ _ a b (by omega) _) rfl rfl (rd_Model γ _) rfl ⟨Nat.le_of_ble_eq_true rfl, Nat.le_of_ble_eq_true rfl, Nat.le_of_ble_eq_true rfl, Nat.le_of_ble_eq_true rfl⟩ (Nat.le_of_ble_eq_true rfl) rfl dX7_couples_31 rfl (det_v ?_)
                rw [show 120 + 8 * a + b = 120 + (8 * a + b) by omega, q_clrS M (8 * a + b) (by unfold q_cl; first | rw [if_pos (by omega)] | rw [if_neg (by omega)])]
                refine v_iinc' X rfl rfl (nI_inc _) dX7_couples_34 ?_
                refine v_goto (tgt := 10) X dX7_couples_37 (by decide) ?_
                exact (ih2 (b + 1) ⟨by omega, by omega⟩)
        exact (lpk 9 0 ⟨by omega, by omega⟩)
  have hz := lpw 7 0 ⟨by omega, by omega⟩
  rw [Nat.mul_zero, q_clr0] at hz
  exact v_Ln (hz) ⟨Or.inr rfl, Or.inr rfl, Or.inr rfl, Or.inl rfl, trivial⟩
