/-! the law's steps -/
set_option maxHeartbeats 4000000 in
set_option maxRecDepth 100000 in
theorem c_L_sets (l : Launch) (γ : Gm) (W : Wd) (nc : Nat) (M : Nat → Int32) (cn tm : Nat) (hL : LI γ W nc M cn tm) (hnc : nc < 40) (j z : Nat) (hj : j < 5) (hz : ¬ nI z < lstS j ∧ ¬ mstS j < nI z) : Cr l γ yL_sets cL_sets 5 (some .boolean) 11 259 36 540 [.ref γ.1, .ref (γ.1 + 87), .int (nI j), .int (nI z)] (rdw γ (wset W 10 M)) (SP γ nc cn) := by
  refine Cr_of [some (.ref γ.1), some (.ref (γ.1 + 87)), some (.int (nI j)), some (.int (nI z)), none] (by decide +kernel) (Nat.le_of_ble_eq_true rfl) rfl ?_
  intro p e s m args below meth c X
  refine v_q0 (fun Q0 hQ0 => ?_)
  have hL0 := hL
  obtain ⟨⟨P, T, u, t, hI⟩, htm, hiv, h9⟩ := hL
  have hV := hI.2.1
  obtain ⟨hVS, hT, hT9⟩ := hV
  obtain ⟨⟨hc, h1, h6⟩, hOQ, hTP, hHB, hSR⟩ := hVS
  have hB := hiv.hb h9
  have ej : (nI j).toNatClampNeg = j := nI_clamp (by omega)
  have hj4 := nI_in0 (j := j) (N := 4) (by omega) (by decide)
  have no2 : ¬ ((¬ nI j < nI 0 ∧ ¬ nI 4 < nI j) ∧ (¬ nI 201 < lstS j ∧ ¬ mstS j < nI 201)) := fun z9 => z9.2.2 (ms_201 j hj)
  have hN5 : (upd M (228 + j) (nI z)) 225 = M 225 := pk_un (by omega)
  have hN8 : (upd M (228 + j) (nI z)) 218 = nI cn := (pk_un (by omega)).trans hc
  refine v_aload_n X rfl dL_sets_0 ?_
  refine v_bipush' X kb_57 dL_sets_1 ?_
  refine v_iload_n X rfl dL_sets_3 ?_
  refine v_iadd' X (nI_add _ _) dL_sets_4 ?_
  refine v_iald' X (v := (M (228 + j))) (rd_W1 γ _ _) ((57 + j)) rfl (by omega) (by decide) (w_at (i := (57 + j)) (j := 228 + j) (by omega) (fw_hi (by omega) (by omega))) dL_sets_5 ?_
  refine v_istore X (Nat.le_of_ble_eq_true rfl) rfl dL_sets_6 ?_
  refine v_aload_n X rfl dL_sets_8 ?_
  refine v_bipush' X kb_57 dL_sets_9 ?_
  refine v_iload_n X rfl dL_sets_11 ?_
  refine v_iadd' X (nI_add _ _) dL_sets_12 ?_
  refine v_iload_n X rfl dL_sets_13 ?_
  refine v_iast X (rd_W1 γ _ _) ((57 + j)) rfl (by omega) (by decide) dL_sets_14 ?_
  refine v_eqh (up_W1 (i := (57 + j)) (j := 228 + j) γ _ _ (by omega) (fw_hi (by omega) (by omega)) _) ?_
  refine v_aload_n X rfl dL_sets_15 ?_
  refine v_iload_n X rfl dL_sets_16 ?_
  refine v_iload_n X rfl dL_sets_17 ?_
  have hC := c_X6_set l γ (wset W 10 (upd M (228 + j) (nI z))) nc M P T u t cn 0 tm (hI.b10 _) (by omega) (nI j) (nI z)
  rw [ej] at hC
  refine v_callV (ci := 6) X mv_L_33 (mut_ok hC ⟨hj4, hz⟩ (if2p ⟨hj4, hz⟩)) rfl rfl (rd_BT γ _) rfl ⟨Nat.le_of_ble_eq_true rfl, Nat.le_of_ble_eq_true rfl, Nat.le_of_ble_eq_true rfl, Nat.le_of_ble_eq_true rfl⟩ (Nat.le_of_ble_eq_true rfl) rfl dL_sets_18 rfl (nd_i (fun h9 hp9 => ?_))
  obtain ⟨W2, cn2, tm2, rfl, hI2⟩ := hp9
  refine v_iload X rfl dL_sets_21 ?_
  refine v_icmp_ne_f (tgt := 56) X dL_sets_23 (by decide) rfl ?_
  refine v_aload_n X rfl dL_sets_26 ?_
  refine v_iload_n X rfl dL_sets_27 ?_
  refine v_sipush' X ks_201 dL_sets_28 ?_
  have hC2 := c_X6_set l γ (wset W2 10 (upd M (228 + j) (nI z))) (nc + 1) (upd M (228 + j) (nI z)) _ _ _ _ cn2 0 tm2 hI2 (by omega) (nI j) (nI 201)
  rw [ej] at hC2
  refine v_callV (ci := 6) X mv_L_33 (mut_no hC2 no2 (if2n no2)) rfl rfl (rd_BT γ _) rfl ⟨Nat.le_of_ble_eq_true rfl, Nat.le_of_ble_eq_true rfl, Nat.le_of_ble_eq_true rfl, Nat.le_of_ble_eq_true rfl⟩ (Nat.le_of_ble_eq_true rfl) rfl dL_sets_31 rfl (det_i ?_)
  refine v_sipush' X ks_m1002 dL_sets_34 ?_
  refine v_icmp_ne_f (tgt := 56) X dL_sets_37 (by decide) rfl ?_
  refine v_aload_n X rfl dL_sets_40 ?_
  refine v_iconst' X kc_5 dL_sets_41 ?_
  refine v_iconst' X kc_1 dL_sets_42 ?_
  have hC3 := c_X6_set l γ (wset W2 10 (upd M (228 + j) (nI z))) (nc + 1) (upd M (228 + j) (nI z)) _ _ _ _ cn2 0 tm2 hI2 (by omega) (nI 5) (nI 1)
  refine v_callV (ci := 6) X mv_L_33 (mut_no hC3 (fun z9 => z9.1.2 (by decide)) (if_neg (fun z9 => z9.2 (by decide)))) rfl rfl (rd_BT γ _) rfl ⟨Nat.le_of_ble_eq_true rfl, Nat.le_of_ble_eq_true rfl, Nat.le_of_ble_eq_true rfl, Nat.le_of_ble_eq_true rfl⟩ (Nat.le_of_ble_eq_true rfl) rfl dL_sets_43 rfl (det_i ?_)
  refine v_sipush' X ks_m1002 dL_sets_46 ?_
  refine v_icmp_ne_f (tgt := 56) X dL_sets_49 (by decide) rfl ?_
  refine v_iconst' X kc_1 dL_sets_52 ?_
  refine v_goto (tgt := 57) X dL_sets_53 (by decide) ?_
  subst hQ0
  exact v_zret X rfl rfl (Nat.le_of_ble_eq_true rfl) (Nat.le_of_ble_eq_true rfl) dL_sets_57 (SP_mk hI2 ((pk_un (by omega)).trans hT) (by omega) (by omega) (by rw [hN5]; exact IV_o hiv (by omega) (fun a ha => by omega) (by omega) (by omega)) (by rw [hN5]; exact h9) (Or.inr ⟨hN8, h6⟩))
set_option maxHeartbeats 4000000 in
set_option maxRecDepth 100000 in
theorem c_L_loads (l : Launch) (γ : Gm) (W : Wd) (nc : Nat) (M : Nat → Int32) (cn tm : Nat) (hL : LI γ W nc M cn tm) (hnc : nc < 40) (a z : Nat) (ha : a < cn) (hz : 1 ≤ z) (hz2 : z ≤ 200) : Cr l γ yL_loads cL_loads 4 (some .boolean) 11 259 36 540 [.ref γ.1, .ref (γ.1 + 87), .int (nI a), .int (nI z)] (rdw γ (wset W 10 M)) (SP γ nc cn) := by
  refine Cr_of [some (.ref γ.1), some (.ref (γ.1 + 87)), some (.int (nI a)), some (.int (nI z))] (by decide +kernel) (Nat.le_of_ble_eq_true rfl) rfl ?_
  intro p e s m args below meth c X
  refine v_q0 (fun Q0 hQ0 => ?_)
  have hL0 := hL
  obtain ⟨⟨P, T, u, t, hI⟩, htm, hiv, h9⟩ := hL
  have hV := hI.2.1
  obtain ⟨hVS, hT, hT9⟩ := hV
  obtain ⟨⟨hc, h1, h6⟩, hOQ, hTP, hHB, hSR⟩ := hVS
  have hB := hiv.hb h9
  have ea : (nI a).toNatClampNeg = a := nI_clamp (by omega)
  have ha1 := nI_in0 (j := a) (N := cn - 1) (by omega) (by omega)
  have hz1 := nI_in1 (j := z) (a := 1) (N := 200) hz hz2 (by decide)
  have hN8 : (upd (upd M (120 + 8 * a + 0) (M (120 + 8 * a + 0) + nI z)) 225 (M 225 + nI z)) 218 = nI cn := (pk_un (by omega)).trans ((pk_un (by omega)).trans hc)
  refine v_aload_n X rfl dL_loads_0 ?_
  refine v_bipush' X kb_50 dL_loads_1 ?_
  refine v_iald' X (v := (M (220))) (rd_W1 γ _ _) (50) rfl (by omega) (by decide) (w_at (i := 50) (j := 220) (by omega) rfl) dL_loads_3 ?_
  refine v_if_eq (tgt := 25) X dL_loads_4 (by decide) (fun r1 => ?_) (fun r1 => ?_)
  · refine v_aload_n X rfl dL_loads_25 ?_
    refine v_bipush' X kb_8 dL_loads_26 ?_
    refine v_iload_n X rfl dL_loads_28 ?_
    refine v_imul' X (pk_mul _ _) dL_loads_29 ?_
    refine v_iald' X (v := (M (120 + 8 * a + 0))) (rd_W1 γ _ _) ((8 * a)) rfl (by omega) (by decide) (w_at (i := (8 * a)) (j := 120 + 8 * a + 0) (by omega) (fw_lo (by omega) (by omega))) dL_loads_30 ?_
    refine v_iload_n X rfl dL_loads_31 ?_
    refine v_iadd X dL_loads_32 ?_
    refine v_sipush' X ks_200 dL_loads_33 ?_
    refine v_icmp_le (tgt := 57) X dL_loads_36 (by decide) (fun r2 => ?_) (fun r2 => ?_)
    · refine v_aload_n X rfl dL_loads_57 ?_
      refine v_bipush' X kb_54 dL_loads_58 ?_
      refine v_iald' X (v := (M (225))) (rd_W1 γ _ _) (54) rfl (by omega) (by decide) (w_at (i := 54) (j := 225) (by omega) rfl) dL_loads_60 ?_
      refine v_iload_n X rfl dL_loads_61 ?_
      refine v_iadd X dL_loads_62 ?_
      refine v_sipush' X ks_1000 dL_loads_63 ?_
      refine v_icmp_le (tgt := 71) X dL_loads_66 (by decide) (fun r3 => ?_) (fun r3 => ?_)
      · refine v_aload_n X rfl dL_loads_71 ?_
        refine v_bipush' X kb_8 dL_loads_72 ?_
        refine v_iload_n X rfl dL_loads_74 ?_
        refine v_imul' X (pk_mul _ _) dL_loads_75 ?_
        refine v_dup2 X rfl rfl dL_loads_76 ?_
        refine v_iald' X (v := (M (120 + 8 * a + 0))) (rd_W1 γ _ _) ((8 * a)) rfl (by omega) (by decide) (w_at (i := (8 * a)) (j := 120 + 8 * a + 0) (by omega) (fw_lo (by omega) (by omega))) dL_loads_77 ?_
        refine v_iload_n X rfl dL_loads_78 ?_
        refine v_iadd X dL_loads_79 ?_
        refine v_iast X (rd_W1 γ _ _) ((8 * a)) rfl (by omega) (by decide) dL_loads_80 ?_
        refine v_eqh (up_W1 (i := (8 * a)) (j := 120 + 8 * a + 0) γ _ _ (by omega) (fw_lo (by omega) (by omega)) _) ?_
        refine v_aload_n X rfl dL_loads_81 ?_
        refine v_bipush' X kb_54 dL_loads_82 ?_
        refine v_dup2 X rfl rfl dL_loads_84 ?_
        refine v_iald' X (v := (M 225)) (rd_W1 γ _ _) (54) rfl (by omega) (by decide) ((w_at (i := 54) (j := 225) (by omega) rfl).trans (pk_un (by omega))) dL_loads_85 ?_
        refine v_iload_n X rfl dL_loads_86 ?_
        refine v_iadd X dL_loads_87 ?_
        refine v_iast X (rd_W1 γ _ _) (54) rfl (by omega) (by decide) dL_loads_88 ?_
        refine v_eqh (up_W1 (i := 54) (j := 225) γ _ _ (by omega) rfl _) ?_
        refine v_aload_n X rfl dL_loads_89 ?_
        refine v_iload_n X rfl dL_loads_90 ?_
        refine v_iload_n X rfl dL_loads_91 ?_
        have hC := c_X6_load l γ (wset W 10 (upd (upd M (120 + 8 * a + 0) (M (120 + 8 * a + 0) + nI z)) 225 (M 225 + nI z))) nc M P T u t cn 0 tm (hI.b10 _) (by omega) (nI a) (nI z)
        rw [ea] at hC
        refine v_callV (ci := 6) X mv_L_39 (mut_ok hC ⟨ha1, hz1, r1, r2⟩ (by rw [if_pos ha1, if_pos hz1, if_pos r1, if_pos r2])) rfl rfl (rd_BT γ _) rfl ⟨Nat.le_of_ble_eq_true rfl, Nat.le_of_ble_eq_true rfl, Nat.le_of_ble_eq_true rfl, Nat.le_of_ble_eq_true rfl⟩ (Nat.le_of_ble_eq_true rfl) rfl dL_loads_92 rfl (nd_i (fun h9 hp9 => ?_))
        obtain ⟨W2, cn2, tm2, rfl, hI2⟩ := hp9
        refine v_aload_n X rfl dL_loads_95 ?_
        refine v_bipush' X kb_8 dL_loads_96 ?_
        refine v_iload_n X rfl dL_loads_98 ?_
        refine v_imul' X (pk_mul _ _) dL_loads_99 ?_
        refine v_iald' X (v := (M (120 + 8 * a + 0) + nI z)) (rd_W1 γ _ _) ((8 * a)) rfl (by omega) (by decide) ((w_at (i := (8 * a)) (j := 120 + 8 * a + 0) (by omega) (fw_lo (by omega) (by omega))).trans (by rw [pk_un (by omega), pk_us])) dL_loads_100 ?_
        refine v_icmp_ne_f (tgt := 108) X dL_loads_101 (by decide) rfl ?_
        refine v_iconst' X kc_1 dL_loads_104 ?_
        refine v_goto (tgt := 109) X dL_loads_105 (by decide) ?_
        subst hQ0
        exact v_zret X rfl rfl (Nat.le_of_ble_eq_true rfl) (Nat.le_of_ble_eq_true rfl) dL_loads_109 (SP_mk hI2 ((pk_un (by omega)).trans ((pk_un (by omega)).trans hT)) (by omega) (by omega) (IV_load hiv h9 (by omega) hz2 r3).1 (IV_load hiv h9 (by omega) hz2 r3).2 (Or.inr ⟨hN8, h6⟩))
      · refine v_iconst' X kc_1 dL_loads_69 ?_
        subst hQ0
        exact v_zret X rfl rfl (Nat.le_of_ble_eq_true rfl) (Nat.le_of_ble_eq_true rfl) dL_loads_70 hL0.sp
    · refine v_aload_n X rfl dL_loads_39 ?_
      refine v_iload_n X rfl dL_loads_40 ?_
      refine v_iload_n X rfl dL_loads_41 ?_
      have hC := c_X6_load l γ (wset W 10 M) nc M P T u t cn 0 tm hI (by omega) (nI a) (nI z)
      rw [ea] at hC
      refine v_callV (ci := 6) X mv_L_39 (mut_no hC (fun z9 => r2 z9.2.2.2) (by rw [if_pos ha1, if_pos hz1, if_pos r1, if_neg r2])) rfl rfl (rd_BT γ _) rfl ⟨Nat.le_of_ble_eq_true rfl, Nat.le_of_ble_eq_true rfl, Nat.le_of_ble_eq_true rfl, Nat.le_of_ble_eq_true rfl⟩ (Nat.le_of_ble_eq_true rfl) rfl dL_loads_42 rfl (det_i ?_)
      refine v_sipush' X ks_m1004 dL_loads_45 ?_
      refine v_icmp_ne_f (tgt := 55) X dL_loads_48 (by decide) rfl ?_
      refine v_iconst' X kc_1 dL_loads_51 ?_
      refine v_goto (tgt := 56) X dL_loads_52 (by decide) ?_
      subst hQ0
      exact v_zret X rfl rfl (Nat.le_of_ble_eq_true rfl) (Nat.le_of_ble_eq_true rfl) dL_loads_56 hL0.sp
  · refine v_aload_n X rfl dL_loads_7 ?_
    refine v_iload_n X rfl dL_loads_8 ?_
    refine v_iload_n X rfl dL_loads_9 ?_
    have hC := c_X6_load l γ (wset W 10 M) nc M P T u t cn 0 tm hI (by omega) (nI a) (nI z)
    rw [ea] at hC
    refine v_callV (ci := 6) X mv_L_39 (mut_no hC (fun z9 => r1 z9.2.2.1) (by rw [if_pos ha1, if_pos hz1, if_neg r1])) rfl rfl (rd_BT γ _) rfl ⟨Nat.le_of_ble_eq_true rfl, Nat.le_of_ble_eq_true rfl, Nat.le_of_ble_eq_true rfl, Nat.le_of_ble_eq_true rfl⟩ (Nat.le_of_ble_eq_true rfl) rfl dL_loads_10 rfl (det_i ?_)
    refine v_sipush' X ks_m1003 dL_loads_13 ?_
    refine v_icmp_ne_f (tgt := 23) X dL_loads_16 (by decide) rfl ?_
    refine v_iconst' X kc_1 dL_loads_19 ?_
    refine v_goto (tgt := 24) X dL_loads_20 (by decide) ?_
    subst hQ0
    exact v_zret X rfl rfl (Nat.le_of_ble_eq_true rfl) (Nat.le_of_ble_eq_true rfl) dL_loads_24 hL0.sp
set_option maxHeartbeats 4000000 in
set_option maxRecDepth 100000 in
theorem c_L_doors (l : Launch) (γ : Gm) (W : Wd) (nc : Nat) (M : Nat → Int32) (cn tm : Nat) (hL : LI γ W nc M cn tm) (hnc : nc < 40) (a b z : Nat) (ha : a < cn) (hb : b < 3) (hz : z < 4) : Cr l γ yL_doors cL_doors 6 (some .boolean) 11 259 36 540 [.ref γ.1, .ref (γ.1 + 87), .int (nI a), .int (nI b), .int (nI z)] (rdw γ (wset W 10 M)) (SP γ nc 0) := by
  refine Cr_of [some (.ref γ.1), some (.ref (γ.1 + 87)), some (.int (nI a)), some (.int (nI b)), some (.int (nI z)), none] (by decide +kernel) (Nat.le_of_ble_eq_true rfl) rfl ?_
  intro p e s m args below meth c X
  refine v_q0 (fun Q0 hQ0 => ?_)
  have hL0 := hL
  obtain ⟨⟨P, T, u, t, hI⟩, htm, hiv, h9⟩ := hL
  have hV := hI.2.1
  obtain ⟨hVS, hT, hT9⟩ := hV
  obtain ⟨⟨hc, h1, h6⟩, hOQ, hTP, hHB, hSR⟩ := hVS
  have hB := hiv.hb h9
  have ea : (nI a).toNatClampNeg = a := nI_clamp (by omega)
  have eb : (nI b).toNatClampNeg = b := nI_clamp (by omega)
  have ha1 := nI_in0 (j := a) (N := cn - 1) (by omega) (by omega)
  have hb1 := nI_in0 (j := b) (N := 2) (by omega) (by omega)
  have hz1 := nI_in0 (j := z) (N := 3) (by omega) (by omega)
  have hN5 : (q_moves M a b (nI z)) 225 = M 225 := mov_hi M _ (by omega) hb (by omega)
  refine v_aload_n X rfl dL_doors_0 ?_
  refine v_bipush' X kb_8 dL_doors_1 ?_
  refine v_iload_n X rfl dL_doors_3 ?_
  refine v_imul' X (pk_mul _ _) dL_doors_4 ?_
  refine v_iconst' X kc_2 dL_doors_5 ?_
  refine v_iadd' X (nI_add _ _) dL_doors_6 ?_
  refine v_iload_n X rfl dL_doors_7 ?_
  refine v_iadd' X (nI_add _ _) dL_doors_8 ?_
  refine v_iald' X (v := (M (120 + 8 * a + (2 + b)))) (rd_W1 γ _ _) ((((8 * a) + 2) + b)) rfl (by omega) (by decide) (w_at (i := (((8 * a) + 2) + b)) (j := 120 + 8 * a + (2 + b)) (by omega) (fw_lo (by omega) (by omega))) dL_doors_9 ?_
  refine v_istore X (Nat.le_of_ble_eq_true rfl) rfl dL_doors_10 ?_
  refine v_aload_n X rfl dL_doors_12 ?_
  refine v_iload_n X rfl dL_doors_13 ?_
  refine v_iload_n X rfl dL_doors_14 ?_
  refine v_iload X rfl dL_doors_15 ?_
  refine v_callS X ms_L_15 (c_L_moves l γ W M a b (by omega) hb (nI z)) rfl ⟨Nat.le_of_ble_eq_true rfl, Nat.le_of_ble_eq_true rfl, Nat.le_of_ble_eq_true rfl, Nat.le_of_ble_eq_true rfl⟩ (Nat.le_of_ble_eq_true rfl) rfl dL_doors_17 rfl (det_v ?_)
  refine v_aload_n X rfl dL_doors_20 ?_
  refine v_iload_n X rfl dL_doors_21 ?_
  refine v_iload_n X rfl dL_doors_22 ?_
  refine v_iload X rfl dL_doors_23 ?_
  have hC := c_X6_door l γ (wset W 10 (q_moves M a b (nI z))) nc M P T u t cn 0 tm (hI.b10 _) (by omega) (nI a) (nI b) (nI z)
  rw [ea, eb] at hC
  refine v_callV (ci := 6) X mv_L_42 (mut_ok hC ⟨ha1, hb1, hz1⟩ (if3p ⟨ha1, hb1, hz1⟩)) rfl rfl (rd_BT γ _) rfl ⟨Nat.le_of_ble_eq_true rfl, Nat.le_of_ble_eq_true rfl, Nat.le_of_ble_eq_true rfl, Nat.le_of_ble_eq_true rfl⟩ (Nat.le_of_ble_eq_true rfl) rfl dL_doors_25 rfl (nd_i (fun h9 hp9 => ?_))
  obtain ⟨W2, cn2, tm2, rfl, hI2⟩ := hp9
  refine v_iload X rfl dL_doors_28 ?_
  refine v_icmp_ne_f (tgt := 50) X dL_doors_30 (by decide) rfl ?_
  refine v_aload_n X rfl dL_doors_33 ?_
  refine v_iload_n X rfl dL_doors_34 ?_
  refine v_iconst' X kc_3 dL_doors_35 ?_
  refine v_iconst' X kc_0 dL_doors_36 ?_
  have hC2 := c_X6_door l γ (wset W2 10 (q_moves M a b (nI z))) (nc + 1) (q_moves M a b (nI z)) _ _ _ _ cn2 0 tm2 hI2 (by omega) (nI a) (nI 3) (nI 0)
  refine v_callV (ci := 6) X mv_L_42 (mut_no hC2 (fun z9 => z9.2.1.2 (by decide)) (if3n (fun z9 => z9.2.1.2 (by decide)))) rfl rfl (rd_BT γ _) rfl ⟨Nat.le_of_ble_eq_true rfl, Nat.le_of_ble_eq_true rfl, Nat.le_of_ble_eq_true rfl, Nat.le_of_ble_eq_true rfl⟩ (Nat.le_of_ble_eq_true rfl) rfl dL_doors_37 rfl (det_i ?_)
  refine v_sipush' X ks_m1002 dL_doors_40 ?_
  refine v_icmp_ne_f (tgt := 50) X dL_doors_43 (by decide) rfl ?_
  refine v_iconst' X kc_1 dL_doors_46 ?_
  refine v_goto (tgt := 51) X dL_doors_47 (by decide) ?_
  subst hQ0
  exact v_zret X rfl rfl (Nat.le_of_ble_eq_true rfl) (Nat.le_of_ble_eq_true rfl) dL_doors_51 (SP_mk hI2 ((mov_hi M _ (by omega) hb (by omega)).trans hT) (by omega) (by omega) (by rw [hN5]; exact IV_moves hiv (by omega) hb _) (by rw [hN5]; exact h9) (Or.inl rfl))
set_option maxHeartbeats 4000000 in
set_option maxRecDepth 100000 in
theorem c_L_wishes (l : Launch) (γ : Gm) (W : Wd) (nc : Nat) (M : Nat → Int32) (cn tm : Nat) (hL : LI γ W nc M cn tm) (hnc : nc < 40) (z : Nat) (hz : z < 4) : Cr l γ yL_wishes cL_wishes 4 (some .boolean) 11 259 36 540 [.ref γ.1, .ref (γ.1 + 87), .int (nI z)] (rdw γ (wset W 10 M)) (SP γ nc 0) := by
  refine Cr_of [some (.ref γ.1), some (.ref (γ.1 + 87)), some (.int (nI z)), none] (by decide +kernel) (Nat.le_of_ble_eq_true rfl) rfl ?_
  intro p e s m args below meth c X
  refine v_q0 (fun Q0 hQ0 => ?_)
  have hL0 := hL
  obtain ⟨⟨P, T, u, t, hI⟩, htm, hiv, h9⟩ := hL
  have hV := hI.2.1
  obtain ⟨hVS, hT, hT9⟩ := hV
  obtain ⟨⟨hc, h1, h6⟩, hOQ, hTP, hHB, hSR⟩ := hVS
  have hB := hiv.hb h9
  have hz1 := nI_in0 (j := z) (N := 3) (by omega) (by omega)
  have hN5 : (upd M 221 (nI z)) 225 = M 225 := pk_un (by omega)
  refine v_aload_n X rfl dL_wishes_0 ?_
  refine v_bipush' X kb_51 dL_wishes_1 ?_
  refine v_iald' X (v := (M (221))) (rd_W1 γ _ _) (51) rfl (by omega) (by decide) (w_at (i := 51) (j := 221) (by omega) rfl) dL_wishes_3 ?_
  refine v_istore_n X (Nat.le_of_ble_eq_true rfl) rfl dL_wishes_4 ?_
  refine v_aload_n X rfl dL_wishes_5 ?_
  refine v_bipush' X kb_51 dL_wishes_6 ?_
  refine v_iload_n X rfl dL_wishes_8 ?_
  refine v_iast X (rd_W1 γ _ _) (51) rfl (by omega) (by decide) dL_wishes_9 ?_
  refine v_eqh (up_W1 (i := 51) (j := 221) γ _ _ (by omega) rfl _) ?_
  refine v_aload_n X rfl dL_wishes_10 ?_
  refine v_iload_n X rfl dL_wishes_11 ?_
  have hC := c_X6_wish l γ (wset W 10 (upd M 221 (nI z))) nc M P T u t cn 0 tm (hI.b10 _) (by omega) (nI z)
  refine v_callV (ci := 6) X mv_L_46 (mut_ok hC hz1 (if_pos hz1)) rfl rfl (rd_BT γ _) rfl ⟨Nat.le_of_ble_eq_true rfl, Nat.le_of_ble_eq_true rfl, Nat.le_of_ble_eq_true rfl, Nat.le_of_ble_eq_true rfl⟩ (Nat.le_of_ble_eq_true rfl) rfl dL_wishes_12 rfl (nd_i (fun h9 hp9 => ?_))
  obtain ⟨W2, cn2, tm2, rfl, hI2⟩ := hp9
  refine v_iload_n X rfl dL_wishes_15 ?_
  refine v_icmp_ne_f (tgt := 34) X dL_wishes_16 (by decide) rfl ?_
  refine v_aload_n X rfl dL_wishes_19 ?_
  refine v_iconst' X kc_4 dL_wishes_20 ?_
  have hC2 := c_X6_wish l γ (wset W2 10 (upd M 221 (nI z))) (nc + 1) (upd M 221 (nI z)) _ _ _ _ cn2 0 tm2 hI2 (by omega) (nI 4)
  refine v_callV (ci := 6) X mv_L_46 (mut_no hC2 (fun z9 => z9.2 (by decide)) (if_neg (fun z9 => z9.2 (by decide)))) rfl rfl (rd_BT γ _) rfl ⟨Nat.le_of_ble_eq_true rfl, Nat.le_of_ble_eq_true rfl, Nat.le_of_ble_eq_true rfl, Nat.le_of_ble_eq_true rfl⟩ (Nat.le_of_ble_eq_true rfl) rfl dL_wishes_21 rfl (det_i ?_)
  refine v_sipush' X ks_m1002 dL_wishes_24 ?_
  refine v_icmp_ne_f (tgt := 34) X dL_wishes_27 (by decide) rfl ?_
  refine v_iconst' X kc_1 dL_wishes_30 ?_
  refine v_goto (tgt := 35) X dL_wishes_31 (by decide) ?_
  subst hQ0
  exact v_zret X rfl rfl (Nat.le_of_ble_eq_true rfl) (Nat.le_of_ble_eq_true rfl) dL_wishes_35 (SP_mk hI2 ((pk_un (by omega)).trans hT) (by omega) (by omega) (by rw [hN5]; exact IV_o hiv (by omega) (fun a ha => by omega) (by omega) (by omega)) (by rw [hN5]; exact h9) (Or.inl rfl))
set_option maxHeartbeats 4000000 in
set_option maxRecDepth 100000 in
theorem c_L_passes (l : Launch) (γ : Gm) (W : Wd) (nc : Nat) (M : Nat → Int32) (cn tm : Nat) (hL : LI γ W nc M cn tm) (hnc : nc < 40) (z : Nat) (hz : 1 ≤ z) (hz2 : z ≤ 30) : Cr l γ yL_passes cL_passes 6 (some .boolean) 11 259 36 540 [.ref γ.1, .ref (γ.1 + 86), .ref (γ.1 + 87), .ref (γ.1 + 88), .int (nI z)] (rdw γ (wset W 10 M)) (SP γ nc 0) := by
  refine Cr_of [some (.ref γ.1), some (.ref (γ.1 + 86)), some (.ref (γ.1 + 87)), some (.ref (γ.1 + 88)), some (.int (nI z)), none] (by decide +kernel) (Nat.le_of_ble_eq_true rfl) rfl ?_
  intro p e s m args below meth c X
  refine v_q0 (fun Q0 hQ0 => ?_)
  have hL0 := hL
  obtain ⟨⟨P, T, u, t, hI⟩, htm, hiv, h9⟩ := hL
  have hV := hI.2.1
  obtain ⟨hVS, hT, hT9⟩ := hV
  obtain ⟨⟨hc, h1, h6⟩, hOQ, hTP, hHB, hSR⟩ := hVS
  have hB := hiv.hb h9
  have ez : (nI z).toNatClampNeg = z := nI_clamp (by omega)
  have hz1 := nI_in1 (j := z) (a := 1) (N := 200) hz (by omega) (by decide)
  have hz3 : M 222 + nI z ≤ nI 9999 := by rw [hT, nI_add]; exact (nI_leI (by omega) (by decide)).mpr (by omega)
  have hq : ∀ i, i ≤ 30 → VT (s_secs M i) cn 0 (tm + i) ∧ IV (s_secs M i) (M 225).toInt ∧ s_secs M i 225 = M 225 := fun i hi => secs_iv hI.2.1 hiv h9 i (by omega)
  refine v_iconst' X kc_0 dL_passes_0 ?_
  refine v_istore X (Nat.le_of_ble_eq_true rfl) rfl dL_passes_1 ?_
  have lp3 : ∀ (na : Nat) (i : Nat), i ≤ z ∧ z + 1 ≤ i + na → V p l e { frames := 11, cells := 36, slots := 540, locals := 259 } s m args below meth c γ Q0 (rdw γ (wset W 10 (s_secs M i))) 0 0 3 [some (.ref γ.1), some (.ref (γ.1 + 86)), some (.ref (γ.1 + 87)), some (.ref (γ.1 + 88)), some (.int (nI z)), some (.int (nI i))] [] := by
    intro na
    induction na with
    | zero =>
      intro i hba
      exact absurd hba (by omega)
    | succ na iha =>
      intro i hba
      refine v_iload X rfl dL_passes_3 ?_
      refine v_iload X rfl dL_passes_5 ?_
      refine v_icmp_ge_n (tgt := 22) X dL_passes_7 (by decide) (by omega) (by omega) (fun d1 => ?_) (fun d1 => ?_)
      · have hid : z = i := by omega
        subst hid
        refine v_aload_n X rfl dL_passes_22 ?_
        refine v_iload X rfl dL_passes_23 ?_
        have hC := c_X6_pass l γ (wset W 10 (s_secs M z)) nc M P T u t cn 0 tm (hI.b10 _) (by omega) (nI z)
        rw [ez] at hC
        refine v_callV (ci := 6) X mv_L_54 (mut_ok hC ⟨hz1, hz3⟩ (by rw [if_pos hz1, if_pos hz3])) rfl rfl (rd_BT γ _) rfl ⟨Nat.le_of_ble_eq_true rfl, Nat.le_of_ble_eq_true rfl, Nat.le_of_ble_eq_true rfl, Nat.le_of_ble_eq_true rfl⟩ (Nat.le_of_ble_eq_true rfl) rfl dL_passes_25 rfl (nd_i (fun h9 hp9 => ?_))
        obtain ⟨W2, cn2, tm2, rfl, hI2⟩ := hp9
        refine v_aload_n X rfl dL_passes_28 ?_
        refine v_bipush' X kb_49 dL_passes_29 ?_
        refine v_iald' X (v := ((s_secs M z) (219))) (rd_W1 γ _ _) (49) rfl (by omega) (by decide) (w_at (i := 49) (j := 219) (by omega) rfl) dL_passes_31 ?_
        refine v_icmp_ne_f (tgt := 52) X dL_passes_32 (by decide) rfl ?_
        refine v_aload_n X rfl dL_passes_35 ?_
        refine v_sipush' X ks_201 dL_passes_36 ?_
        have hC2 := c_X6_pass l γ (wset W2 10 (s_secs M z)) (nc + 1) (s_secs M z) _ _ _ _ cn2 0 tm2 hI2 (by omega) (nI 201)
        refine v_callV (ci := 6) X mv_L_54 (mut_no hC2 (fun z9 => z9.1.2 (by decide)) (if_neg (fun z9 => z9.2 (by decide)))) rfl rfl (rd_BT γ _) rfl ⟨Nat.le_of_ble_eq_true rfl, Nat.le_of_ble_eq_true rfl, Nat.le_of_ble_eq_true rfl, Nat.le_of_ble_eq_true rfl⟩ (Nat.le_of_ble_eq_true rfl) rfl dL_passes_39 rfl (det_i ?_)
        refine v_sipush' X ks_m1002 dL_passes_42 ?_
        refine v_icmp_ne_f (tgt := 52) X dL_passes_45 (by decide) rfl ?_
        refine v_iconst' X kc_1 dL_passes_48 ?_
        refine v_goto (tgt := 53) X dL_passes_49 (by decide) ?_
        subst hQ0
        exact v_zret X rfl rfl (Nat.le_of_ble_eq_true rfl) (Nat.le_of_ble_eq_true rfl) dL_passes_53 (SP_mk hI2 (hq z (by omega)).1.2.1 (by omega) (by omega) (by rw [(hq z (by omega)).2.2]; exact (hq z (by omega)).2.1) (by rw [(hq z (by omega)).2.2]; exact h9) (Or.inl rfl))
      · refine v_aload_n X rfl dL_passes_10 ?_
        refine v_aload_n X rfl dL_passes_11 ?_
        refine v_aload_n X rfl dL_passes_12 ?_
        refine v_callS X ms_L_50 (c_L_second l γ W (s_secs M i) cn _ _ (hq i (by omega)).1.1 (hq i (by omega)).2.1 h9) rfl ⟨Nat.le_of_ble_eq_true rfl, Nat.le_of_ble_eq_true rfl, Nat.le_of_ble_eq_true rfl, Nat.le_of_ble_eq_true rfl⟩ (Nat.le_of_ble_eq_true rfl) rfl dL_passes_13 rfl (det_v ?_)
        show V p l e _ s m args below meth c γ _ (rdw γ (wset W 10 (s_secs M (i + 1)))) _ _ _ _ _
        refine v_iinc' X rfl rfl (nI_inc _) dL_passes_16 ?_
        refine v_goto (tgt := 3) X dL_passes_19 (by decide) ?_
        exact (iha (i + 1) ⟨by omega, by omega⟩)
  exact (lp3 (z + 1) 0 ⟨by omega, by omega⟩)
set_option maxHeartbeats 4000000 in
set_option maxRecDepth 100000 in
theorem c_L_scrapes (l : Launch) (γ : Gm) (W : Wd) (nc : Nat) (M : Nat → Int32) (cn tm : Nat) (hL : LI γ W nc M cn tm) (hnc : nc < 40) (a b z : Nat) (ha : a < 40) (hb : b < 3) (hz : 1 ≤ z) (hz2 : z ≤ 60) : Cr l γ yL_scrapes cL_scrapes 7 (some .boolean) 11 259 36 540 [.ref γ.1, .ref (γ.1 + 86), .ref (γ.1 + 87), .int (nI a), .int (nI b), .int (nI z)] (rdw γ (wset W 10 M)) (SP γ nc 0) := by
  refine Cr_of [some (.ref γ.1), some (.ref (γ.1 + 86)), some (.ref (γ.1 + 87)), some (.int (nI a)), some (.int (nI b)), some (.int (nI z)), none] (by decide +kernel) (Nat.le_of_ble_eq_true rfl) rfl ?_
  intro p e s m args below meth c X
  refine v_q0 (fun Q0 hQ0 => ?_)
  have hL0 := hL
  obtain ⟨⟨P, T, u, t, hI⟩, htm, hiv, h9⟩ := hL
  have hV := hI.2.1
  obtain ⟨hVS, hT, hT9⟩ := hV
  obtain ⟨⟨hc, h1, h6⟩, hOQ, hTP, hHB, hSR⟩ := hVS
  have hB := hiv.hb h9
  have ea : (nI a).toNatClampNeg = a := nI_clamp (by omega)
  have eb : (nI b).toNatClampNeg = b := nI_clamp (by omega)
  have ha1 := nI_in0 (j := a) (N := 39) (by omega) (by omega)
  have hb1 := nI_in0 (j := b) (N := 2) (by omega) (by omega)
  have hz1 := nI_in1 (j := z) (a := 1) (N := 60) hz hz2 (by decide)
  have hsm := smin_in (z := z) (x := M (3 * a + b)) hz2 (hB (3 * a + b) (by omega)).1
  have hN5 : (q_scr M a b (s_min (nI z) (M (3 * a + b)))) 225 = M 225 := (pk_un (by decide)).trans (pk_un (by omega))
  refine v_aload_n X rfl dL_scrapes_0 ?_
  refine v_iload_n X rfl dL_scrapes_1 ?_
  refine v_iload X rfl dL_scrapes_2 ?_
  refine v_callS X ms_L_29 (c_L_height l γ W M hB a b ha hb) rfl ⟨Nat.le_of_ble_eq_true rfl, Nat.le_of_ble_eq_true rfl, Nat.le_of_ble_eq_true rfl, Nat.le_of_ble_eq_true rfl⟩ (Nat.le_of_ble_eq_true rfl) rfl dL_scrapes_4 rfl (det_i ?_)
  refine v_iload X rfl dL_scrapes_7 ?_
  have jn24 : ∀ (u0 : Int32), u0 = (s_min (nI z) (M (3 * a + b))) → V p l e { frames := 11, cells := 36, slots := 540, locals := 259 } s m args below meth c γ Q0 (rdw γ (wset W 10 M)) 0 0 24 [some (.ref γ.1), some (.ref (γ.1 + 86)), some (.ref (γ.1 + 87)), some (.int (nI a)), some (.int (nI b)), some (.int (nI z)), none] [.int u0] := by
    intro u0 hu0
    subst hu0
    refine v_istore X (Nat.le_of_ble_eq_true rfl) rfl dL_scrapes_24 ?_
    refine v_aload_n X rfl dL_scrapes_26 ?_
    refine v_iload_n X rfl dL_scrapes_27 ?_
    refine v_iload X rfl dL_scrapes_28 ?_
    refine v_iload X rfl dL_scrapes_30 ?_
    refine v_ineg X dL_scrapes_32 ?_
    refine v_callS X ms_L_26 (c_L_comes l γ W M a b ha hb (-(s_min (nI z) (M (3 * a + b))))) rfl ⟨Nat.le_of_ble_eq_true rfl, Nat.le_of_ble_eq_true rfl, Nat.le_of_ble_eq_true rfl, Nat.le_of_ble_eq_true rfl⟩ (Nat.le_of_ble_eq_true rfl) rfl dL_scrapes_33 rfl (det_v ?_)
    refine v_aload_n X rfl dL_scrapes_36 ?_
    refine v_bipush' X kb_56 dL_scrapes_37 ?_
    refine v_dup2 X rfl rfl dL_scrapes_39 ?_
    refine v_iald' X (v := ((upd M (3 * a + b) (M (3 * a + b) + -(s_min (nI z) (M (3 * a + b))))) (227))) (rd_W1 γ _ _) (56) rfl (by omega) (by decide) (w_at (i := 56) (j := 227) (by omega) rfl) dL_scrapes_40 ?_
    refine v_iload X rfl dL_scrapes_41 ?_
    refine v_iadd X dL_scrapes_43 ?_
    refine v_iast X (rd_W1 γ _ _) (56) rfl (by omega) (by decide) dL_scrapes_44 ?_
    refine v_eqh (up_W1 (i := 56) (j := 227) γ _ _ (by omega) rfl _) ?_
    rw [← Int32.sub_eq_add_neg]
    show V p l e _ s m args below meth c γ _ (rdw γ (wset W 10 (q_scr M a b (s_min (nI z) (M (3 * a + b)))))) _ _ _ _ _
    refine v_aload_n X rfl dL_scrapes_45 ?_
    refine v_iload_n X rfl dL_scrapes_46 ?_
    refine v_iload X rfl dL_scrapes_47 ?_
    refine v_iload X rfl dL_scrapes_49 ?_
    have hC := c_X6_scrape l γ (wset W 10 (q_scr M a b (s_min (nI z) (M (3 * a + b))))) nc M P T u t cn 0 tm (hI.b10 _) (by omega) (nI a) (nI b) (nI z)
    rw [ea, eb] at hC
    refine v_callV (ci := 6) X mv_L_76 (mut_ok hC ⟨ha1, hb1, hz1⟩ (if3p ⟨ha1, hb1, hz1⟩)) rfl rfl (rd_BT γ _) rfl ⟨Nat.le_of_ble_eq_true rfl, Nat.le_of_ble_eq_true rfl, Nat.le_of_ble_eq_true rfl, Nat.le_of_ble_eq_true rfl⟩ (Nat.le_of_ble_eq_true rfl) rfl dL_scrapes_51 rfl (nd_i (fun h9 hp9 => ?_))
    obtain ⟨W2, cn2, tm2, rfl, hI2⟩ := hp9
    refine v_iload X rfl dL_scrapes_54 ?_
    refine v_icmp_ne_f (tgt := 91) X dL_scrapes_56 (by decide) rfl ?_
    refine v_aload_n X rfl dL_scrapes_59 ?_
    refine v_bipush' X kb_40 dL_scrapes_60 ?_
    refine v_iconst' X kc_0 dL_scrapes_62 ?_
    refine v_iconst' X kc_1 dL_scrapes_63 ?_
    have hC2 := c_X6_scrape l γ (wset W2 10 (q_scr M a b (s_min (nI z) (M (3 * a + b))))) (nc + 1) (q_scr M a b (s_min (nI z) (M (3 * a + b)))) _ _ _ _ cn2 0 tm2 hI2 (by omega) (nI 40) (nI 0) (nI 1)
    refine v_callV (ci := 6) X mv_L_76 (mut_no hC2 (fun z9 => z9.1.2 (by decide)) (if_neg (fun z9 => z9.2 (by decide)))) rfl rfl (rd_BT γ _) rfl ⟨Nat.le_of_ble_eq_true rfl, Nat.le_of_ble_eq_true rfl, Nat.le_of_ble_eq_true rfl, Nat.le_of_ble_eq_true rfl⟩ (Nat.le_of_ble_eq_true rfl) rfl dL_scrapes_64 rfl (det_i ?_)
    refine v_sipush' X ks_m1002 dL_scrapes_67 ?_
    refine v_icmp_ne_f (tgt := 91) X dL_scrapes_70 (by decide) rfl ?_
    refine v_aload_n X rfl dL_scrapes_73 ?_
    refine v_iconst' X kc_0 dL_scrapes_74 ?_
    refine v_iconst' X kc_0 dL_scrapes_75 ?_
    refine v_bipush' X kb_61 dL_scrapes_76 ?_
    have hC3 := c_X6_scrape l γ (wset W2 10 (q_scr M a b (s_min (nI z) (M (3 * a + b))))) (nc + 1) (q_scr M a b (s_min (nI z) (M (3 * a + b)))) _ _ _ _ cn2 0 tm2 hI2 (by omega) (nI 0) (nI 0) (nI 61)
    refine v_callV (ci := 6) X mv_L_76 (mut_no hC3 (fun z9 => z9.2.2.2 (by decide)) (if3n (fun z9 => z9.2.2.2 (by decide)))) rfl rfl (rd_BT γ _) rfl ⟨Nat.le_of_ble_eq_true rfl, Nat.le_of_ble_eq_true rfl, Nat.le_of_ble_eq_true rfl, Nat.le_of_ble_eq_true rfl⟩ (Nat.le_of_ble_eq_true rfl) rfl dL_scrapes_78 rfl (det_i ?_)
    refine v_sipush' X ks_m1002 dL_scrapes_81 ?_
    refine v_icmp_ne_f (tgt := 91) X dL_scrapes_84 (by decide) rfl ?_
    refine v_iconst' X kc_1 dL_scrapes_87 ?_
    refine v_goto (tgt := 92) X dL_scrapes_88 (by decide) ?_
    subst hQ0
    exact v_zret X rfl rfl (Nat.le_of_ble_eq_true rfl) (Nat.le_of_ble_eq_true rfl) dL_scrapes_92 (SP_mk hI2 ((pk_un (by decide)).trans ((pk_un (by omega)).trans hT)) (by omega) (by omega) (by rw [hN5]; exact IV_scr hiv h9 (by omega) hsm.1 hsm.2) (by rw [hN5]; exact h9) (Or.inl rfl))
  refine v_icmp_ge (tgt := 22) X dL_scrapes_9 (by decide) (fun r1 => ?_) (fun r1 => ?_)
  · refine v_iload X rfl dL_scrapes_22 ?_
    exact v_Ln (jn24 _ (by unfold s_min; first | exact u_t r1 | exact u_f r1)) ⟨Or.inr rfl, Or.inr rfl, Or.inr rfl, Or.inr rfl, Or.inr rfl, Or.inr rfl, Or.inl rfl, trivial⟩
  · refine v_aload_n X rfl dL_scrapes_12 ?_
    refine v_iload_n X rfl dL_scrapes_13 ?_
    refine v_iload X rfl dL_scrapes_14 ?_
    refine v_callS X ms_L_29 (c_L_height l γ W M hB a b ha hb) rfl ⟨Nat.le_of_ble_eq_true rfl, Nat.le_of_ble_eq_true rfl, Nat.le_of_ble_eq_true rfl, Nat.le_of_ble_eq_true rfl⟩ (Nat.le_of_ble_eq_true rfl) rfl dL_scrapes_16 rfl (det_i ?_)
    refine v_goto (tgt := 24) X dL_scrapes_19 (by decide) ?_
    exact v_Ln (jn24 _ (by unfold s_min; first | exact u_t r1 | exact u_f r1)) ⟨Or.inr rfl, Or.inr rfl, Or.inr rfl, Or.inr rfl, Or.inr rfl, Or.inr rfl, Or.inl rfl, trivial⟩
set_option maxHeartbeats 4000000 in
set_option maxRecDepth 100000 in
theorem c_L_setsTrain (l : Launch) (γ : Gm) (W : Wd) (nc : Nat) (M : Nat → Int32) (cn tm : Nat) (hL : LI γ W nc M cn tm) (hnc : nc < 40) (z : Nat) (hz : 1 ≤ z) (hz2 : z ≤ 6) : Cr l γ yL_setsTrain cL_setsTrain 4 (some .boolean) 11 259 36 540 [.ref γ.1, .ref (γ.1 + 87), .int (nI z)] (rdw γ (wset W 10 M)) (SP γ nc 0) := by
  refine Cr_of [some (.ref γ.1), some (.ref (γ.1 + 87)), some (.int (nI z)), none] (by decide +kernel) (Nat.le_of_ble_eq_true rfl) rfl ?_
  intro p e s m args below meth c X
  refine v_q0 (fun Q0 hQ0 => ?_)
  have hL0 := hL
  obtain ⟨⟨P, T, u, t, hI⟩, htm, hiv, h9⟩ := hL
  have hV := hI.2.1
  obtain ⟨hVS, hT, hT9⟩ := hV
  obtain ⟨⟨hc, h1, h6⟩, hOQ, hTP, hHB, hSR⟩ := hVS
  have hB := hiv.hb h9
  have hz1 := nI_in1 (j := z) (a := 1) (N := 6) hz hz2 (by decide)
  have hN5 : (q_couples (upd M 227 (M 227 + s_inW M 6)) (nI z)) 225 = M 225 := (cou_off (by omega) (by omega) (by omega) (by omega) (by omega)).trans (pk_un (by omega))
  refine v_aload_n X rfl dL_setsTrain_0 ?_
  refine v_callS X ms_L_72 (c_L_inWagons l γ W M) rfl ⟨Nat.le_of_ble_eq_true rfl, Nat.le_of_ble_eq_true rfl, Nat.le_of_ble_eq_true rfl, Nat.le_of_ble_eq_true rfl⟩ (Nat.le_of_ble_eq_true rfl) rfl dL_setsTrain_1 rfl (det_i ?_)
  refine v_istore_n X (Nat.le_of_ble_eq_true rfl) rfl dL_setsTrain_4 ?_
  refine v_aload_n X rfl dL_setsTrain_5 ?_
  refine v_bipush' X kb_56 dL_setsTrain_6 ?_
  refine v_dup2 X rfl rfl dL_setsTrain_8 ?_
  refine v_iald' X (v := (M (227))) (rd_W1 γ _ _) (56) rfl (by omega) (by decide) (w_at (i := 56) (j := 227) (by omega) rfl) dL_setsTrain_9 ?_
  refine v_iload_n X rfl dL_setsTrain_10 ?_
  refine v_iadd X dL_setsTrain_11 ?_
  refine v_iast X (rd_W1 γ _ _) (56) rfl (by omega) (by decide) dL_setsTrain_12 ?_
  refine v_eqh (up_W1 (i := 56) (j := 227) γ _ _ (by omega) rfl _) ?_
  refine v_aload_n X rfl dL_setsTrain_13 ?_
  refine v_iload_n X rfl dL_setsTrain_14 ?_
  refine v_callS X ms_L_9 (c_L_couples l γ W (upd M 227 (M 227 + s_inW M 6)) (nI z)) rfl ⟨Nat.le_of_ble_eq_true rfl, Nat.le_of_ble_eq_true rfl, Nat.le_of_ble_eq_true rfl, Nat.le_of_ble_eq_true rfl⟩ (Nat.le_of_ble_eq_true rfl) rfl dL_setsTrain_15 rfl (det_v ?_)
  refine v_aload_n X rfl dL_setsTrain_18 ?_
  refine v_iload_n X rfl dL_setsTrain_19 ?_
  have hC := c_X6_setTrain l γ (wset W 10 (q_couples (upd M 227 (M 227 + s_inW M 6)) (nI z))) nc M P T u t cn 0 tm (hI.b10 _) (by omega) (nI z)
  rw [← inW_6 hTP.2.2 h6] at hC
  refine v_callV (ci := 6) X mv_L_79 (mut_ok hC hz1 (if_pos hz1)) rfl rfl (rd_BT γ _) rfl ⟨Nat.le_of_ble_eq_true rfl, Nat.le_of_ble_eq_true rfl, Nat.le_of_ble_eq_true rfl, Nat.le_of_ble_eq_true rfl⟩ (Nat.le_of_ble_eq_true rfl) rfl dL_setsTrain_20 rfl (nd_i (fun h9 hp9 => ?_))
  obtain ⟨W2, cn2, tm2, rfl, hI2⟩ := hp9
  refine v_iload_n X rfl dL_setsTrain_23 ?_
  refine v_icmp_ne_f (tgt := 43) X dL_setsTrain_24 (by decide) rfl ?_
  refine v_aload_n X rfl dL_setsTrain_27 ?_
  refine v_bipush' X kb_7 dL_setsTrain_28 ?_
  have hC2 := c_X6_setTrain l γ (wset W2 10 (q_couples (upd M 227 (M 227 + s_inW M 6)) (nI z))) (nc + 1) (q_couples (upd M 227 (M 227 + s_inW M 6)) (nI z)) _ _ _ _ cn2 0 tm2 hI2 (by omega) (nI 7)
  refine v_callV (ci := 6) X mv_L_79 (mut_no hC2 (fun z9 => z9.2 (by decide)) (if_neg (fun z9 => z9.2 (by decide)))) rfl rfl (rd_BT γ _) rfl ⟨Nat.le_of_ble_eq_true rfl, Nat.le_of_ble_eq_true rfl, Nat.le_of_ble_eq_true rfl, Nat.le_of_ble_eq_true rfl⟩ (Nat.le_of_ble_eq_true rfl) rfl dL_setsTrain_30 rfl (det_i ?_)
  refine v_sipush' X ks_m1002 dL_setsTrain_33 ?_
  refine v_icmp_ne_f (tgt := 43) X dL_setsTrain_36 (by decide) rfl ?_
  refine v_iconst' X kc_1 dL_setsTrain_39 ?_
  refine v_goto (tgt := 44) X dL_setsTrain_40 (by decide) ?_
  subst hQ0
  exact v_zret X rfl rfl (Nat.le_of_ble_eq_true rfl) (Nat.le_of_ble_eq_true rfl) dL_setsTrain_44 (SP_mk hI2 ((cou_off (by omega) (by omega) (by omega) (by omega) (by omega)).trans ((pk_un (by omega)).trans hT)) (by omega) (by omega) (by rw [hN5]; exact IV_couples hiv h9 _) (by rw [hN5]; exact h9) (Or.inl rfl))
