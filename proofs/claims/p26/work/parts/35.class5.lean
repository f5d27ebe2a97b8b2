set_option maxHeartbeats 4000000 in
set_option maxRecDepth 100000 in
theorem c_J7_fill_53178 (l : Launch) (γ : Gm) (h : HP) (q N : Nat) (f : Nat → Int32) (x : Int32) (hN : N ≤ 200) (hq : h.1 q = some (iE γ N f)) : Cr l γ yJ7_fill_53178 cJ7_fill_53178 4 none 0 0 0 0 [.ref q, .int x] (h) (Det none (hset h q (iE γ N (c_fill f x N)))) := by
  refine Cr_of [some (.ref q), some (.int x), none, none] (by decide +kernel) (Nat.le_of_ble_eq_true rfl) rfl ?_
  intro p e s m args below meth c X
  refine v_q0 (fun Q0 hQ0 => ?_)
  refine v_iconst' X kc_0 dJ7_fill_53178_0 ?_
  refine v_istore_n X (Nat.le_of_ble_eq_true rfl) rfl dJ7_fill_53178_1 ?_
  refine v_aload_n X rfl dJ7_fill_53178_2 ?_
  refine v_alen (t0 := 0) X hq rfl dJ7_fill_53178_3 ?_
  refine v_istore_n X (Nat.le_of_ble_eq_true rfl) rfl dJ7_fill_53178_4 ?_
  have lp5 : ∀ (n : Nat) (j : Nat), j ≤ N ∧ N + 1 ≤ j + n → V p l e { frames := 0, cells := 0, slots := 0, locals := 0 } s m args below meth c γ Q0 (hset h q (iE γ N (c_fill f x j))) 0 0 5 [some (.ref q), some (.int x), some (.int (nI j)), some (.int (nI N))] [] := by
    intro n
    induction n with
    | zero =>
      intro j hbd
      exact absurd hbd (by omega)
    | succ n ih =>
      intro j hbd
      refine v_iload_n X rfl dJ7_fill_53178_5 ?_
      refine v_iload_n X rfl dJ7_fill_53178_6 ?_
      refine v_icmp_ge_n (tgt := 20) X dJ7_fill_53178_7 (by decide) (by omega) (by omega) (fun c_7 => ?_) (fun c_7 => ?_)
      · have hj : N = j := by omega
        subst hj
        subst hQ0
        exact v_vret X rfl (Nat.le_of_ble_eq_true rfl) (Nat.le_of_ble_eq_true rfl) dJ7_fill_53178_20 ⟨rfl, rfl⟩
      · refine v_aload_n X rfl dJ7_fill_53178_10 ?_
        refine v_iload_n X rfl dJ7_fill_53178_11 ?_
        refine v_iload_n X rfl dJ7_fill_53178_12 ?_
        refine v_iast X (hset_at _ _ _) j rfl (by omega) (by omega) dJ7_fill_53178_13 ?_
        refine v_eqh (h' := hset h q (iE γ N (c_fill f x (j + 1)))) (by rw [c_fillS]; exact hset_hset _ _ _ _) ?_
        refine v_iinc' X rfl rfl (nI_inc _) dJ7_fill_53178_14 ?_
        refine v_goto (tgt := 5) X dJ7_fill_53178_17 (by decide) ?_
        exact (ih (j + 1) ⟨by omega, by omega⟩)
  have hy := lp5 (N + 1) 0 ⟨by omega, by omega⟩
  rw [c_fill0, hset_same hq] at hy
  exact (hy)
set_option maxHeartbeats 4000000 in
set_option maxRecDepth 100000 in
theorem c_X6_copyRow (l : Launch) (γ : Gm) (h : HP) (a b N : Nat) (f g : Nat → Int32) (hN : N ≤ 200) (ha : h.1 a = some (iE γ N f)) (hb : h.1 b = some (iE γ N g)) : Cr l γ yX6_copyRow cX6_copyRow 2 none 1 40 0 0 [.ref a, .ref b] (h) (Det none (hset h b (iE γ N (va_cpy f g 0 0 N)))) := by
  refine Cr_of [some (.ref a), some (.ref b)] (by decide +kernel) (Nat.le_of_ble_eq_true rfl) rfl ?_
  intro p e s m args below meth c X
  refine v_q0 (fun Q0 hQ0 => ?_)
  refine v_aload_n X rfl dX6_copyRow_0 ?_
  refine v_iconst' X kc_0 dX6_copyRow_1 ?_
  refine v_aload_n X rfl dX6_copyRow_2 ?_
  refine v_iconst' X kc_0 dX6_copyRow_3 ?_
  refine v_aload_n X rfl dX6_copyRow_4 ?_
  refine v_alen (t0 := 0) X ha rfl dX6_copyRow_5 ?_
  refine v_aload_n X rfl dX6_copyRow_6 ?_
  refine v_alen (t0 := 0) X hb rfl dX6_copyRow_7 ?_
  refine v_mmin X mm_X6_151 (Nat.le_of_ble_eq_true rfl) (Nat.le_of_ble_eq_true rfl) (Nat.le_of_ble_eq_true rfl) (Nat.le_of_ble_eq_true rfl) rfl dX6_copyRow_8 ?_
  refine v_copyi X ac_X6_279 ha hb 0 0 N rfl rfl (by split <;> rfl) (by omega) (by omega) (by omega) (by omega) (Nat.le_of_ble_eq_true rfl) (Nat.le_of_ble_eq_true rfl) rfl dX6_copyRow_11 ?_
  subst hQ0
  exact v_vret X rfl (Nat.le_of_ble_eq_true rfl) (Nat.le_of_ble_eq_true rfl) dX6_copyRow_14 ⟨rfl, rfl⟩
set_option maxHeartbeats 4000000 in
set_option maxRecDepth 100000 in
theorem c_X5_replace (l : Launch) (γ : Gm) (w : Wd) (g : Nat → Int32) (k : Nat) (hk : k < 8) (x : Int32) : Cr l γ yX5_replace cX5_replace 2 none 1 23 0 0 [.ref (γ.1 + so k + 4), .int x] (rdw γ (wset w k g)) (Det none (rdw γ (wset w k (q_couples g x)))) := by
  refine Cr_of [some (.ref (γ.1 + so k + 4)), some (.int x)] (by decide +kernel) (Nat.le_of_ble_eq_true rfl) rfl ?_
  intro p e s m args below meth c X
  refine v_q0 (fun Q0 hQ0 => ?_)
  refine v_aload_n X rfl dX5_replace_0 ?_
  refine v_iload_n X rfl dX5_replace_1 ?_
  refine v_putf X fp_X5_9 (rd_Train γ _ _ hk) rfl rfl (Nat.le_of_ble_eq_true rfl) dX5_replace_2 ?_
  refine v_eqh (up_wagons γ _ _ hk _) ?_
  refine v_aload_n X rfl dX5_replace_5 ?_
  refine v_iconst' X kc_m1 dX5_replace_6 ?_
  refine v_putf X fp_X5_15 (rd_Train γ _ _ hk) rfl rfl (Nat.le_of_ble_eq_true rfl) dX5_replace_7 ?_
  refine v_eqh (up_place γ _ _ hk _) ?_
  refine v_aload_n X rfl dX5_replace_10 ?_
  refine v_iconst' X kc_0 dX5_replace_11 ?_
  refine v_putf X fp_X5_18 (rd_Train γ _ _ hk) rfl rfl (Nat.le_of_ble_eq_true rfl) dX5_replace_12 ?_
  refine v_eqh (up_speed γ _ _ hk _) ?_
  refine v_aload_n X rfl dX5_replace_15 ?_
  refine v_iconst' X kc_0 dX5_replace_16 ?_
  refine v_putf X fp_X5_21 (rd_Train γ _ _ hk) rfl rfl (Nat.le_of_ble_eq_true rfl) dX5_replace_17 ?_
  refine v_eqh (up_wish γ _ _ hk _) ?_
  refine v_aload_n X rfl dX5_replace_20 ?_
  refine v_getf X fd_X5_24 (rd_Train γ _ _ hk) rfl dX5_replace_21 ?_
  refine v_iconst' X kc_0 dX5_replace_24 ?_
  refine v_callS X ms_X5_37 (c_J7_fill_53178 l γ _ _ 6 (vw 6 f_load _) _ (by decide) (rd_Load γ w _ hk)) rfl ⟨Nat.le_of_ble_eq_true rfl, Nat.le_of_ble_eq_true rfl, Nat.le_of_ble_eq_true rfl, Nat.le_of_ble_eq_true rfl⟩ (Nat.le_of_ble_eq_true rfl) rfl dX5_replace_25 rfl (det_v ?_)
  rw [fill_vw, up_pload γ w _ _ hk]
  refine v_aload_n X rfl dX5_replace_28 ?_
  refine v_getf X fd_X5_28 (rd_Train γ _ _ hk) rfl dX5_replace_29 ?_
  refine v_iconst' X kc_0 dX5_replace_32 ?_
  refine v_callS X ms_X5_37 (c_J7_fill_53178 l γ _ _ 6 (vw 6 f_left _) _ (by decide) (rd_Left γ w _ hk)) rfl ⟨Nat.le_of_ble_eq_true rfl, Nat.le_of_ble_eq_true rfl, Nat.le_of_ble_eq_true rfl, Nat.le_of_ble_eq_true rfl⟩ (Nat.le_of_ble_eq_true rfl) rfl dX5_replace_33 rfl (det_v ?_)
  rw [fill_vw, up_pleft γ w _ _ hk]
  refine v_aload_n X rfl dX5_replace_36 ?_
  refine v_getf X fd_X5_31 (rd_Train γ _ _ hk) rfl dX5_replace_37 ?_
  refine v_iconst' X kc_0 dX5_replace_40 ?_
  refine v_callS X ms_X5_37 (c_J7_fill_53178 l γ _ _ 18 (vw 18 f_lev _) _ (by decide) (rd_Level γ w _ hk)) rfl ⟨Nat.le_of_ble_eq_true rfl, Nat.le_of_ble_eq_true rfl, Nat.le_of_ble_eq_true rfl, Nat.le_of_ble_eq_true rfl⟩ (Nat.le_of_ble_eq_true rfl) rfl dX5_replace_41 rfl (det_v ?_)
  rw [fill_vw, up_plev γ w _ _ hk]
  refine v_aload_n X rfl dX5_replace_44 ?_
  refine v_getf X fd_X5_34 (rd_Train γ _ _ hk) rfl dX5_replace_45 ?_
  refine v_sipush' X ks_m1001 dX5_replace_48 ?_
  refine v_callS X ms_X5_37 (c_J7_fill_53178 l γ _ _ 18 (vw 18 f_rest _) _ (by decide) (rd_Rest γ w _ hk)) rfl ⟨Nat.le_of_ble_eq_true rfl, Nat.le_of_ble_eq_true rfl, Nat.le_of_ble_eq_true rfl, Nat.le_of_ble_eq_true rfl⟩ (Nat.le_of_ble_eq_true rfl) rfl dX5_replace_51 rfl (det_v ?_)
  rw [fill_vw, up_prest γ w _ _ hk]
  subst hQ0
  exact v_vret X rfl (Nat.le_of_ble_eq_true rfl) (Nat.le_of_ble_eq_true rfl) dX5_replace_54 ⟨rfl, by rw [pt_couples]⟩
set_option maxHeartbeats 4000000 in
set_option maxRecDepth 100000 in
theorem c_X5_copyFrom (l : Launch) (γ : Gm) (W : Wd) (k k1 : Nat) (g : Nat → Int32) (hk : k < 8) (hk1 : k1 < 8) (hne : k1 ≠ k) : Cr l γ yX5_copyFrom cX5_copyFrom 2 none 2 61 0 0 [.ref (γ.1 + so k + 4), .ref (γ.1 + so k1 + 4)] (rdw γ (wset W k g)) (Det none (rdw γ (wset W k (ptT (W.1 k1) g)))) := by
  refine Cr_of [some (.ref (γ.1 + so k + 4)), some (.ref (γ.1 + so k1 + 4))] (by decide +kernel) (Nat.le_of_ble_eq_true rfl) rfl ?_
  intro p e s m args below meth c X
  refine v_q0 (fun Q0 hQ0 => ?_)
  refine v_aload_n X rfl dX5_copyFrom_0 ?_
  refine v_aload_n X rfl dX5_copyFrom_1 ?_
  refine v_getf X (v := .int ((W.1 k1) 218)) fd_X5_9 (rz_Train γ hk1 (ws_ne _ _ hne)) rfl dX5_copyFrom_2 ?_
  refine v_putf X fp_X5_9 (rd_Train γ _ _ hk) rfl rfl (Nat.le_of_ble_eq_true rfl) dX5_copyFrom_5 ?_
  refine v_eqh (up_wagons γ _ _ hk _) ?_
  refine v_aload_n X rfl dX5_copyFrom_8 ?_
  refine v_aload_n X rfl dX5_copyFrom_9 ?_
  refine v_getf X (v := .int ((W.1 k1) 219)) fd_X5_15 (rz_Train γ hk1 (ws_ne _ _ hne)) rfl dX5_copyFrom_10 ?_
  refine v_putf X fp_X5_15 (rd_Train γ _ _ hk) rfl rfl (Nat.le_of_ble_eq_true rfl) dX5_copyFrom_13 ?_
  refine v_eqh (up_place γ _ _ hk _) ?_
  refine v_aload_n X rfl dX5_copyFrom_16 ?_
  refine v_aload_n X rfl dX5_copyFrom_17 ?_
  refine v_getf X (v := .int ((W.1 k1) 220)) fd_X5_18 (rz_Train γ hk1 (ws_ne _ _ hne)) rfl dX5_copyFrom_18 ?_
  refine v_putf X fp_X5_18 (rd_Train γ _ _ hk) rfl rfl (Nat.le_of_ble_eq_true rfl) dX5_copyFrom_21 ?_
  refine v_eqh (up_speed γ _ _ hk _) ?_
  refine v_aload_n X rfl dX5_copyFrom_24 ?_
  refine v_aload_n X rfl dX5_copyFrom_25 ?_
  refine v_getf X (v := .int ((W.1 k1) 221)) fd_X5_21 (rz_Train γ hk1 (ws_ne _ _ hne)) rfl dX5_copyFrom_26 ?_
  refine v_putf X fp_X5_21 (rd_Train γ _ _ hk) rfl rfl (Nat.le_of_ble_eq_true rfl) dX5_copyFrom_29 ?_
  refine v_eqh (up_wish γ _ _ hk _) ?_
  refine v_aload_n X rfl dX5_copyFrom_32 ?_
  refine v_getf X fd_X5_24 (rz_Train γ hk1 (ws_ne _ _ hne)) rfl dX5_copyFrom_33 ?_
  refine v_aload_n X rfl dX5_copyFrom_36 ?_
  refine v_getf X fd_X5_24 (rd_Train γ _ _ hk) rfl dX5_copyFrom_37 ?_
  refine v_callSN X msn_X5_43 (c_X6_copyRow l γ _ _ _ 6 (vw 6 f_load (W.1 k1)) (vw 6 f_load _) (by decide) (rz_Load γ hk1 (ws_ne _ _ hne)) (rd_Load γ W _ hk)) rfl ⟨Nat.le_of_ble_eq_true rfl, Nat.le_of_ble_eq_true rfl, Nat.le_of_ble_eq_true rfl, Nat.le_of_ble_eq_true rfl⟩ (Nat.le_of_ble_eq_true rfl) rfl dX5_copyFrom_40 rfl (det_v ?_)
  rw [cpy_vw, up_pload γ W _ _ hk]
  refine v_aload_n X rfl dX5_copyFrom_43 ?_
  refine v_getf X fd_X5_28 (rz_Train γ hk1 (ws_ne _ _ hne)) rfl dX5_copyFrom_44 ?_
  refine v_aload_n X rfl dX5_copyFrom_47 ?_
  refine v_getf X fd_X5_28 (rd_Train γ _ _ hk) rfl dX5_copyFrom_48 ?_
  refine v_callSN X msn_X5_43 (c_X6_copyRow l γ _ _ _ 6 (vw 6 f_left (W.1 k1)) (vw 6 f_left _) (by decide) (rz_Left γ hk1 (ws_ne _ _ hne)) (rd_Left γ W _ hk)) rfl ⟨Nat.le_of_ble_eq_true rfl, Nat.le_of_ble_eq_true rfl, Nat.le_of_ble_eq_true rfl, Nat.le_of_ble_eq_true rfl⟩ (Nat.le_of_ble_eq_true rfl) rfl dX5_copyFrom_51 rfl (det_v ?_)
  rw [cpy_vw, up_pleft γ W _ _ hk]
  refine v_aload_n X rfl dX5_copyFrom_54 ?_
  refine v_getf X fd_X5_31 (rz_Train γ hk1 (ws_ne _ _ hne)) rfl dX5_copyFrom_55 ?_
  refine v_aload_n X rfl dX5_copyFrom_58 ?_
  refine v_getf X fd_X5_31 (rd_Train γ _ _ hk) rfl dX5_copyFrom_59 ?_
  refine v_callSN X msn_X5_43 (c_X6_copyRow l γ _ _ _ 18 (vw 18 f_lev (W.1 k1)) (vw 18 f_lev _) (by decide) (rz_Level γ hk1 (ws_ne _ _ hne)) (rd_Level γ W _ hk)) rfl ⟨Nat.le_of_ble_eq_true rfl, Nat.le_of_ble_eq_true rfl, Nat.le_of_ble_eq_true rfl, Nat.le_of_ble_eq_true rfl⟩ (Nat.le_of_ble_eq_true rfl) rfl dX5_copyFrom_62 rfl (det_v ?_)
  rw [cpy_vw, up_plev γ W _ _ hk]
  refine v_aload_n X rfl dX5_copyFrom_65 ?_
  refine v_getf X fd_X5_34 (rz_Train γ hk1 (ws_ne _ _ hne)) rfl dX5_copyFrom_66 ?_
  refine v_aload_n X rfl dX5_copyFrom_69 ?_
  refine v_getf X fd_X5_34 (rd_Train γ _ _ hk) rfl dX5_copyFrom_70 ?_
  refine v_callSN X msn_X5_43 (c_X6_copyRow l γ _ _ _ 18 (vw 18 f_rest (W.1 k1)) (vw 18 f_rest _) (by decide) (rz_Rest γ hk1 (ws_ne _ _ hne)) (rd_Rest γ W _ hk)) rfl ⟨Nat.le_of_ble_eq_true rfl, Nat.le_of_ble_eq_true rfl, Nat.le_of_ble_eq_true rfl, Nat.le_of_ble_eq_true rfl⟩ (Nat.le_of_ble_eq_true rfl) rfl dX5_copyFrom_73 rfl (det_v ?_)
  rw [cpy_vw, up_prest γ W _ _ hk]
  subst hQ0
  exact v_vret X rfl (Nat.le_of_ble_eq_true rfl) (Nat.le_of_ble_eq_true rfl) dX5_copyFrom_76 ⟨rfl, rfl⟩
