/-! the law's questions -/
set_option maxHeartbeats 4000000 in
set_option maxRecDepth 100000 in
theorem c_L_isTold (l : Launch) (γ : Gm) (W : Wd) (nc : Nat) (M P T : Nat → Int32) (u t cn tm : Nat) (hI : CI γ (wset W 10 M) nc M P T u t cn 0 tm) (hB : HB M 1000) : Cr l γ yL_isTold cL_isTold 8 (some .boolean) 4 89 0 0 [.ref γ.1, .ref (γ.1 + 86), .ref (γ.1 + 87), .ref (γ.1 + 88)] (rdw γ (wset W 10 M)) (Det (some (.int (nI 1))) (rdw γ (wset W 10 (M)))) := by
  refine Cr_of [some (.ref γ.1), some (.ref (γ.1 + 86)), some (.ref (γ.1 + 87)), some (.ref (γ.1 + 88)), none, none, none, none] (by decide +kernel) (Nat.le_of_ble_eq_true rfl) rfl ?_
  intro p e s m args below meth c X
  refine v_q0 (fun Q0 hQ0 => ?_)
  have hI0 := hI
  obtain ⟨hM, hV, hF, hL1, hL8, hH, hX, hN⟩ := hI0
  obtain ⟨hVS, hT, hT9⟩ := hV
  obtain ⟨⟨hc, h1, h6⟩, hOQ, hTP, hHB, hSR⟩ := hVS
  refine v_iconst' X kc_0 dL_isTold_0 ?_
  refine v_istore X (Nat.le_of_ble_eq_true rfl) rfl dL_isTold_1 ?_
  have lp3 : ∀ (na : Nat) (a : Nat), a ≤ cn ∧ cn + 1 ≤ a + na → V p l e { frames := 4, cells := 0, slots := 0, locals := 89 } s m args below meth c γ Q0 (rdw γ (wset W 10 M)) 0 0 3 [some (.ref γ.1), some (.ref (γ.1 + 86)), some (.ref (γ.1 + 87)), some (.ref (γ.1 + 88)), some (.int (nI a)), none, none, none] [] := by
    intro na
    induction na with
    | zero =>
      intro a hba
      exact absurd hba (by omega)
    | succ na iha =>
      intro a hba
      refine v_iload X rfl dL_isTold_3 ?_
      refine v_aload_n X rfl dL_isTold_5 ?_
      refine v_bipush' X kb_48 dL_isTold_6 ?_
      refine v_iald' X (v := nI cn) (rd_W1 γ _ _) (48) rfl (by omega) (by decide) ((w_at (i := 48) (j := 218) (by omega) rfl).trans hc) dL_isTold_8 ?_
      refine v_icmp_ge_n (tgt := 215) X dL_isTold_9 (by decide) (by omega) (by omega) (fun d1 => ?_) (fun d1 => ?_)
      · have had : cn = a := by omega
        subst had
        refine v_iconst' X kc_0 dL_isTold_215 ?_
        refine v_istore X (Nat.le_of_ble_eq_true rfl) rfl dL_isTold_216 ?_
        have lp218 : ∀ (nc2 : Nat) (a : Nat), a ≤ 40 ∧ 41 ≤ a + nc2 → V p l e { frames := 4, cells := 0, slots := 0, locals := 89 } s m args below meth c γ Q0 (rdw γ (wset W 10 M)) 0 0 218 [some (.ref γ.1), some (.ref (γ.1 + 86)), some (.ref (γ.1 + 87)), some (.ref (γ.1 + 88)), some (.int (nI a)), none, none, none] [] := by
          intro nc2
          induction nc2 with
          | zero =>
            intro a hbc
            exact absurd hbc (by omega)
          | succ nc2 ihc =>
            intro a hbc
            refine v_iload X rfl dL_isTold_218 ?_
            refine v_bipush' X kb_40 dL_isTold_220 ?_
            refine v_icmp_ge_n (tgt := 284) X dL_isTold_222 (by decide) (by omega) (by omega) (fun d3 => ?_) (fun d3 => ?_)
            · have had : a = 40 := by omega
              subst had
              refine v_iconst' X kc_0 dL_isTold_284 ?_
              refine v_istore X (Nat.le_of_ble_eq_true rfl) rfl dL_isTold_285 ?_
              have lp287 : ∀ (nd : Nat) (a : Nat), a ≤ 5 ∧ 6 ≤ a + nd → V p l e { frames := 4, cells := 0, slots := 0, locals := 89 } s m args below meth c γ Q0 (rdw γ (wset W 10 M)) 0 0 287 [some (.ref γ.1), some (.ref (γ.1 + 86)), some (.ref (γ.1 + 87)), some (.ref (γ.1 + 88)), some (.int (nI a)), none, none, none] [] := by
                intro nd
                induction nd with
                | zero =>
                  intro a hbd
                  exact absurd hbd (by omega)
                | succ nd ihd =>
                  intro a hbd
                  refine v_iload X rfl dL_isTold_287 ?_
                  refine v_iconst' X kc_5 dL_isTold_289 ?_
                  refine v_icmp_ge_n (tgt := 336) X dL_isTold_290 (by decide) (by omega) (by omega) (fun d4 => ?_) (fun d4 => ?_)
                  · have had : a = 5 := by omega
                    subst had
                    refine v_aload_n X rfl dL_isTold_336 ?_
                    refine v_iconst' X kc_0 dL_isTold_337 ?_
                    refine v_callS X ms_L_68 (c_L_sum l γ W M hB 0 (by decide)) rfl ⟨Nat.le_of_ble_eq_true rfl, Nat.le_of_ble_eq_true rfl, Nat.le_of_ble_eq_true rfl, Nat.le_of_ble_eq_true rfl⟩ (Nat.le_of_ble_eq_true rfl) rfl dL_isTold_338 rfl (det_i ?_)
                    refine v_aload_n X rfl dL_isTold_341 ?_
                    refine v_iconst' X kc_1 dL_isTold_342 ?_
                    refine v_callS X ms_L_68 (c_L_sum l γ W M hB 1 (by decide)) rfl ⟨Nat.le_of_ble_eq_true rfl, Nat.le_of_ble_eq_true rfl, Nat.le_of_ble_eq_true rfl, Nat.le_of_ble_eq_true rfl⟩ (Nat.le_of_ble_eq_true rfl) rfl dL_isTold_343 rfl (det_i ?_)
                    refine v_iadd X dL_isTold_346 ?_
                    refine v_aload_n X rfl dL_isTold_347 ?_
                    refine v_iconst' X kc_2 dL_isTold_348 ?_
                    refine v_callS X ms_L_68 (c_L_sum l γ W M hB 2 (by decide)) rfl ⟨Nat.le_of_ble_eq_true rfl, Nat.le_of_ble_eq_true rfl, Nat.le_of_ble_eq_true rfl, Nat.le_of_ble_eq_true rfl⟩ (Nat.le_of_ble_eq_true rfl) rfl dL_isTold_349 rfl (det_i ?_)
                    refine v_iadd X dL_isTold_352 ?_
                    refine v_istore X (Nat.le_of_ble_eq_true rfl) rfl dL_isTold_353 ?_
                    refine v_aload_n X rfl dL_isTold_355 ?_
                    refine v_iconst' X kc_5 dL_isTold_356 ?_
                    refine v_callV (ci := 6) X mv_L_65 (c_X6_count l γ (wset W 10 M) nc M P T u t cn 0 tm hI (nI 5)) rfl rfl (rd_BT γ _) rfl ⟨Nat.le_of_ble_eq_true rfl, Nat.le_of_ble_eq_true rfl, Nat.le_of_ble_eq_true rfl, Nat.le_of_ble_eq_true rfl⟩ (Nat.le_of_ble_eq_true rfl) rfl dL_isTold_357 rfl (det_i ?_)
                    rw [sc_lo (by decide)]
                    show V p l e _ s m args below meth c γ _ _ _ _ _ _ (.int (M 223) :: _)
                    rw [hOQ.1]
                    refine v_aload_n X rfl dL_isTold_360 ?_
                    refine v_bipush' X kb_60 dL_isTold_361 ?_
                    refine v_iald' (v := nI 0) X (rd_Q γ _) 60 rfl (by decide) (by decide) z_nI dL_isTold_363 ?_
                    refine v_icmp_ne_f (tgt := 475) X dL_isTold_364 (by decide) (by decide) ?_
                    refine v_aload_n X rfl dL_isTold_367 ?_
                    refine v_bipush' X kb_6 dL_isTold_368 ?_
                    refine v_callV (ci := 6) X mv_L_65 (c_X6_count l γ (wset W 10 M) nc M P T u t cn 0 tm hI (nI 6)) rfl rfl (rd_BT γ _) rfl ⟨Nat.le_of_ble_eq_true rfl, Nat.le_of_ble_eq_true rfl, Nat.le_of_ble_eq_true rfl, Nat.le_of_ble_eq_true rfl⟩ (Nat.le_of_ble_eq_true rfl) rfl dL_isTold_370 rfl (det_i ?_)
                    rw [sc_lo (by decide)]
                    show V p l e _ s m args below meth c γ _ _ _ _ _ _ (.int ((M 224)) :: _)
                    refine v_aload_n X rfl dL_isTold_373 ?_
                    refine v_bipush' X kb_53 dL_isTold_374 ?_
                    refine v_iald' X (v := (M (224))) (rd_W1 γ _ _) (53) rfl (by omega) (by decide) (w_at (i := 53) (j := 224) (by omega) rfl) dL_isTold_376 ?_
                    refine v_icmp_ne_f (tgt := 475) X dL_isTold_377 (by decide) rfl ?_
                    refine v_aload_n X rfl dL_isTold_380 ?_
                    refine v_bipush' X kb_7 dL_isTold_381 ?_
                    refine v_callV (ci := 6) X mv_L_65 (c_X6_count l γ (wset W 10 M) nc M P T u t cn 0 tm hI (nI 7)) rfl rfl (rd_BT γ _) rfl ⟨Nat.le_of_ble_eq_true rfl, Nat.le_of_ble_eq_true rfl, Nat.le_of_ble_eq_true rfl, Nat.le_of_ble_eq_true rfl⟩ (Nat.le_of_ble_eq_true rfl) rfl dL_isTold_383 rfl (det_i ?_)
                    rw [sc_lo (by decide)]
                    show V p l e _ s m args below meth c γ _ _ _ _ _ _ (.int ((M 225)) :: _)
                    refine v_aload_n X rfl dL_isTold_386 ?_
                    refine v_bipush' X kb_54 dL_isTold_387 ?_
                    refine v_iald' X (v := (M (225))) (rd_W1 γ _ _) (54) rfl (by omega) (by decide) (w_at (i := 54) (j := 225) (by omega) rfl) dL_isTold_389 ?_
                    refine v_icmp_ne_f (tgt := 475) X dL_isTold_390 (by decide) rfl ?_
                    refine v_aload_n X rfl dL_isTold_393 ?_
                    refine v_bipush' X kb_8 dL_isTold_394 ?_
                    refine v_callV (ci := 6) X mv_L_65 (c_X6_count l γ (wset W 10 M) nc M P T u t cn 0 tm hI (nI 8)) rfl rfl (rd_BT γ _) rfl ⟨Nat.le_of_ble_eq_true rfl, Nat.le_of_ble_eq_true rfl, Nat.le_of_ble_eq_true rfl, Nat.le_of_ble_eq_true rfl⟩ (Nat.le_of_ble_eq_true rfl) rfl dL_isTold_396 rfl (det_i ?_)
                    rw [sc_in (by decide)]
                    show V p l e _ s m args below meth c γ _ _ _ _ _ _ (.int ((s_inW M cn)) :: _)
                    refine v_aload_n X rfl dL_isTold_399 ?_
                    refine v_callS X ms_L_72 (c_L_inWagons l γ W M) rfl ⟨Nat.le_of_ble_eq_true rfl, Nat.le_of_ble_eq_true rfl, Nat.le_of_ble_eq_true rfl, Nat.le_of_ble_eq_true rfl⟩ (Nat.le_of_ble_eq_true rfl) rfl dL_isTold_400 rfl (det_i ?_)
                    rw [inW_6 hTP.2.2 h6]
                    refine v_icmp_ne_f (tgt := 475) X dL_isTold_403 (by decide) rfl ?_
                    refine v_aload_n X rfl dL_isTold_406 ?_
                    refine v_bipush' X kb_9 dL_isTold_407 ?_
                    refine v_callV (ci := 6) X mv_L_65 (c_X6_count l γ (wset W 10 M) nc M P T u t cn 0 tm hI (nI 9)) rfl rfl (rd_BT γ _) rfl ⟨Nat.le_of_ble_eq_true rfl, Nat.le_of_ble_eq_true rfl, Nat.le_of_ble_eq_true rfl, Nat.le_of_ble_eq_true rfl⟩ (Nat.le_of_ble_eq_true rfl) rfl dL_isTold_409 rfl (det_i ?_)
                    rw [sc_in (by decide)]
                    show V p l e _ s m args below meth c γ _ _ _ _ _ _ (.int ((s_onT M)) :: _)
                    refine v_iload X rfl dL_isTold_412 ?_
                    refine v_icmp_ne_f (tgt := 475) X dL_isTold_414 (by decide) rfl ?_
                    refine v_aload_n X rfl dL_isTold_417 ?_
                    refine v_bipush' X kb_10 dL_isTold_418 ?_
                    refine v_callV (ci := 6) X mv_L_65 (c_X6_count l γ (wset W 10 M) nc M P T u t cn 0 tm hI (nI 10)) rfl rfl (rd_BT γ _) rfl ⟨Nat.le_of_ble_eq_true rfl, Nat.le_of_ble_eq_true rfl, Nat.le_of_ble_eq_true rfl, Nat.le_of_ble_eq_true rfl⟩ (Nat.le_of_ble_eq_true rfl) rfl dL_isTold_420 rfl (det_i ?_)
                    rw [sc_in (by decide)]
                    show V p l e _ s m args below meth c γ _ _ _ _ _ _ (.int ((M 226)) :: _)
                    refine v_aload_n X rfl dL_isTold_423 ?_
                    refine v_bipush' X kb_55 dL_isTold_424 ?_
                    refine v_iald' X (v := (M (226))) (rd_W1 γ _ _) (55) rfl (by omega) (by decide) (w_at (i := 55) (j := 226) (by omega) rfl) dL_isTold_426 ?_
                    refine v_icmp_ne_f (tgt := 475) X dL_isTold_427 (by decide) rfl ?_
                    refine v_aload_n X rfl dL_isTold_430 ?_
                    refine v_bipush' X kb_11 dL_isTold_431 ?_
                    refine v_callV (ci := 6) X mv_L_65 (c_X6_count l γ (wset W 10 M) nc M P T u t cn 0 tm hI (nI 11)) rfl rfl (rd_BT γ _) rfl ⟨Nat.le_of_ble_eq_true rfl, Nat.le_of_ble_eq_true rfl, Nat.le_of_ble_eq_true rfl, Nat.le_of_ble_eq_true rfl⟩ (Nat.le_of_ble_eq_true rfl) rfl dL_isTold_433 rfl (det_i ?_)
                    rw [sc_in (by decide)]
                    show V p l e _ s m args below meth c γ _ _ _ _ _ _ (.int ((M 227)) :: _)
                    refine v_aload_n X rfl dL_isTold_436 ?_
                    refine v_bipush' X kb_56 dL_isTold_437 ?_
                    refine v_iald' X (v := (M (227))) (rd_W1 γ _ _) (56) rfl (by omega) (by decide) (w_at (i := 56) (j := 227) (by omega) rfl) dL_isTold_439 ?_
                    refine v_icmp_ne_f (tgt := 475) X dL_isTold_440 (by decide) rfl ?_
                    refine v_aload_n X rfl dL_isTold_443 ?_
                    refine v_aload_n X rfl dL_isTold_444 ?_
                    refine v_bipush' X kb_48 dL_isTold_445 ?_
                    refine v_iald' X (v := nI cn) (rd_W1 γ _ _) (48) rfl (by omega) (by decide) ((w_at (i := 48) (j := 218) (by omega) rfl).trans hc) dL_isTold_447 ?_
                    refine v_iconst' X kc_0 dL_isTold_448 ?_
                    refine v_callV (ci := 6) X mv_L_60 (c_X6_wagon l γ (wset W 10 M) nc M P T u t cn 0 tm hI (nI cn) (nI 0)) rfl rfl (rd_BT γ _) rfl ⟨Nat.le_of_ble_eq_true rfl, Nat.le_of_ble_eq_true rfl, Nat.le_of_ble_eq_true rfl, Nat.le_of_ble_eq_true rfl⟩ (Nat.le_of_ble_eq_true rfl) rfl dL_isTold_449 rfl (det_i ?_)
                    rw [sw_out0 h1 h6]
                    refine v_sipush' X ks_m1002 dL_isTold_452 ?_
                    refine v_icmp_ne_f (tgt := 475) X dL_isTold_455 (by decide) rfl ?_
                    refine v_aload_n X rfl dL_isTold_458 ?_
                    refine v_bipush' X kb_40 dL_isTold_459 ?_
                    refine v_iconst' X kc_0 dL_isTold_461 ?_
                    refine v_callV (ci := 6) X mv_L_63 (c_X6_height l γ (wset W 10 M) nc M P T u t cn 0 tm hI (nI 40) (nI 0)) rfl rfl (rd_BT γ _) rfl ⟨Nat.le_of_ble_eq_true rfl, Nat.le_of_ble_eq_true rfl, Nat.le_of_ble_eq_true rfl, Nat.le_of_ble_eq_true rfl⟩ (Nat.le_of_ble_eq_true rfl) rfl dL_isTold_462 rfl (det_i ?_)
                    rw [sh_40]
                    refine v_sipush' X ks_m1002 dL_isTold_465 ?_
                    refine v_icmp_ne_f (tgt := 475) X dL_isTold_468 (by decide) rfl ?_
                    refine v_iconst' X kc_1 dL_isTold_471 ?_
                    refine v_goto (tgt := 476) X dL_isTold_472 (by decide) ?_
                    subst hQ0
                    exact v_zret X rfl rfl (Nat.le_of_ble_eq_true rfl) (Nat.le_of_ble_eq_true rfl) dL_isTold_476 ⟨rfl, rfl⟩
                  · refine v_aload_n X rfl dL_isTold_293 ?_
                    refine v_bipush' X kb_14 dL_isTold_294 ?_
                    refine v_iload X rfl dL_isTold_296 ?_
                    refine v_iadd' X (nI_add _ _) dL_isTold_298 ?_
                    refine v_callV (ci := 6) X mv_L_65 (c_X6_count l γ (wset W 10 M) nc M P T u t cn 0 tm hI (nI (14 + a))) rfl rfl (rd_BT γ _) rfl ⟨Nat.le_of_ble_eq_true rfl, Nat.le_of_ble_eq_true rfl, Nat.le_of_ble_eq_true rfl, Nat.le_of_ble_eq_true rfl⟩ (Nat.le_of_ble_eq_true rfl) rfl dL_isTold_299 rfl (det_i ?_)
                    rw [sc_hi (by omega)]
                    refine v_aload_n X rfl dL_isTold_302 ?_
                    refine v_bipush' X kb_57 dL_isTold_303 ?_
                    refine v_iload X rfl dL_isTold_305 ?_
                    refine v_iadd' X (nI_add _ _) dL_isTold_307 ?_
                    refine v_iald' X (v := (M (228 + a))) (rd_W1 γ _ _) ((57 + a)) rfl (by omega) (by decide) (w_at (i := (57 + a)) (j := 228 + a) (by omega) (fw_hi (by omega) (by omega))) dL_isTold_308 ?_
                    refine v_icmp_ne_f (tgt := 328) X dL_isTold_309 (by decide) rfl ?_
                    refine v_aload_n X rfl dL_isTold_312 ?_
                    refine v_iload X rfl dL_isTold_313 ?_
                    refine v_callV (ci := 6) X mv_L_65 (c_X6_count l γ (wset W 10 M) nc M P T u t cn 0 tm hI (nI a)) rfl rfl (rd_BT γ _) rfl ⟨Nat.le_of_ble_eq_true rfl, Nat.le_of_ble_eq_true rfl, Nat.le_of_ble_eq_true rfl, Nat.le_of_ble_eq_true rfl⟩ (Nat.le_of_ble_eq_true rfl) rfl dL_isTold_315 rfl (det_i ?_)
                    rw [sc_lo (by omega)]
                    refine v_aload_n X rfl dL_isTold_318 ?_
                    refine v_bipush' X kb_48 dL_isTold_319 ?_
                    refine v_iload X rfl dL_isTold_321 ?_
                    refine v_iadd' X (nI_add _ _) dL_isTold_323 ?_
                    refine v_iald' X (v := (M (218 + a))) (rd_W1 γ _ _) ((48 + a)) rfl (by omega) (by decide) (w_at (i := (48 + a)) (j := 218 + a) (by omega) (fw_mid (by omega) (by omega) (by omega))) dL_isTold_324 ?_
                    refine v_icmp_eq_t (tgt := 330) X dL_isTold_325 (by decide) rfl ?_
                    refine v_iinc' X rfl rfl (nI_inc _) dL_isTold_330 ?_
                    refine v_goto (tgt := 287) X dL_isTold_333 (by decide) ?_
                    exact v_Ln (ihd (a + 1) ⟨by omega, by omega⟩) ⟨Or.inr rfl, Or.inr rfl, Or.inr rfl, Or.inr rfl, Or.inr rfl, Or.inl rfl, Or.inl rfl, Or.inl rfl, trivial⟩
              exact v_Ln (lp287 6 0 ⟨by omega, by omega⟩) ⟨Or.inr rfl, Or.inr rfl, Or.inr rfl, Or.inr rfl, Or.inr rfl, Or.inl rfl, Or.inl rfl, Or.inl rfl, trivial⟩
            · refine v_aload_n X rfl dL_isTold_225 ?_
              refine v_iload X rfl dL_isTold_226 ?_
              refine v_iconst' X kc_0 dL_isTold_228 ?_
              refine v_callV (ci := 6) X mv_L_63 (c_X6_height l γ (wset W 10 M) nc M P T u t cn 0 tm hI (nI a) (nI 0)) rfl rfl (rd_BT γ _) rfl ⟨Nat.le_of_ble_eq_true rfl, Nat.le_of_ble_eq_true rfl, Nat.le_of_ble_eq_true rfl, Nat.le_of_ble_eq_true rfl⟩ (Nat.le_of_ble_eq_true rfl) rfl dL_isTold_229 rfl (det_i ?_)
              rw [sh_in (by omega) (by decide)]
              refine v_aload_n X rfl dL_isTold_232 ?_
              refine v_iload X rfl dL_isTold_233 ?_
              refine v_iconst' X kc_0 dL_isTold_235 ?_
              refine v_callS X ms_L_29 (c_L_height l γ W M hB a 0 (by omega) (by decide)) rfl ⟨Nat.le_of_ble_eq_true rfl, Nat.le_of_ble_eq_true rfl, Nat.le_of_ble_eq_true rfl, Nat.le_of_ble_eq_true rfl⟩ (Nat.le_of_ble_eq_true rfl) rfl dL_isTold_236 rfl (det_i ?_)
              refine v_icmp_ne_f (tgt := 276) X dL_isTold_239 (by decide) rfl ?_
              refine v_aload_n X rfl dL_isTold_242 ?_
              refine v_iload X rfl dL_isTold_243 ?_
              refine v_iconst' X kc_1 dL_isTold_245 ?_
              refine v_callV (ci := 6) X mv_L_63 (c_X6_height l γ (wset W 10 M) nc M P T u t cn 0 tm hI (nI a) (nI 1)) rfl rfl (rd_BT γ _) rfl ⟨Nat.le_of_ble_eq_true rfl, Nat.le_of_ble_eq_true rfl, Nat.le_of_ble_eq_true rfl, Nat.le_of_ble_eq_true rfl⟩ (Nat.le_of_ble_eq_true rfl) rfl dL_isTold_246 rfl (det_i ?_)
              rw [sh_in (by omega) (by decide)]
              refine v_aload_n X rfl dL_isTold_249 ?_
              refine v_iload X rfl dL_isTold_250 ?_
              refine v_iconst' X kc_1 dL_isTold_252 ?_
              refine v_callS X ms_L_29 (c_L_height l γ W M hB a 1 (by omega) (by decide)) rfl ⟨Nat.le_of_ble_eq_true rfl, Nat.le_of_ble_eq_true rfl, Nat.le_of_ble_eq_true rfl, Nat.le_of_ble_eq_true rfl⟩ (Nat.le_of_ble_eq_true rfl) rfl dL_isTold_253 rfl (det_i ?_)
              refine v_icmp_ne_f (tgt := 276) X dL_isTold_256 (by decide) rfl ?_
              refine v_aload_n X rfl dL_isTold_259 ?_
              refine v_iload X rfl dL_isTold_260 ?_
              refine v_iconst' X kc_2 dL_isTold_262 ?_
              refine v_callV (ci := 6) X mv_L_63 (c_X6_height l γ (wset W 10 M) nc M P T u t cn 0 tm hI (nI a) (nI 2)) rfl rfl (rd_BT γ _) rfl ⟨Nat.le_of_ble_eq_true rfl, Nat.le_of_ble_eq_true rfl, Nat.le_of_ble_eq_true rfl, Nat.le_of_ble_eq_true rfl⟩ (Nat.le_of_ble_eq_true rfl) rfl dL_isTold_263 rfl (det_i ?_)
              rw [sh_in (by omega) (by decide)]
              refine v_aload_n X rfl dL_isTold_266 ?_
              refine v_iload X rfl dL_isTold_267 ?_
              refine v_iconst' X kc_2 dL_isTold_269 ?_
              refine v_callS X ms_L_29 (c_L_height l γ W M hB a 2 (by omega) (by decide)) rfl ⟨Nat.le_of_ble_eq_true rfl, Nat.le_of_ble_eq_true rfl, Nat.le_of_ble_eq_true rfl, Nat.le_of_ble_eq_true rfl⟩ (Nat.le_of_ble_eq_true rfl) rfl dL_isTold_270 rfl (det_i ?_)
              refine v_icmp_eq_t (tgt := 278) X dL_isTold_273 (by decide) rfl ?_
              refine v_iinc' X rfl rfl (nI_inc _) dL_isTold_278 ?_
              refine v_goto (tgt := 218) X dL_isTold_281 (by decide) ?_
              exact v_Ln (ihc (a + 1) ⟨by omega, by omega⟩) ⟨Or.inr rfl, Or.inr rfl, Or.inr rfl, Or.inr rfl, Or.inr rfl, Or.inl rfl, Or.inl rfl, Or.inl rfl, trivial⟩
        exact v_Ln (lp218 41 0 ⟨by omega, by omega⟩) ⟨Or.inr rfl, Or.inr rfl, Or.inr rfl, Or.inr rfl, Or.inr rfl, Or.inl rfl, Or.inl rfl, Or.inl rfl, trivial⟩
      · refine v_iconst' X kc_0 dL_isTold_12 ?_
        refine v_istore X (Nat.le_of_ble_eq_true rfl) rfl dL_isTold_13 ?_
        refine v_iconst' X kc_0 dL_isTold_15 ?_
        refine v_istore X (Nat.le_of_ble_eq_true rfl) rfl dL_isTold_16 ?_
        refine v_iconst' X kc_0 dL_isTold_18 ?_
        refine v_istore X (Nat.le_of_ble_eq_true rfl) rfl dL_isTold_19 ?_
        have lp21 : ∀ (nb : Nat) (b : Nat), b ≤ 3 ∧ 4 ≤ b + nb → V p l e { frames := 4, cells := 0, slots := 0, locals := 89 } s m args below meth c γ Q0 (rdw γ (wset W 10 M)) 0 0 21 [some (.ref γ.1), some (.ref (γ.1 + 86)), some (.ref (γ.1 + 87)), some (.ref (γ.1 + 88)), some (.int (nI a)), some (.int (s_cl3 M a b)), some (.int (t_lev M a b)), some (.int (nI b))] [] := by
          intro nb
          induction nb with
          | zero =>
            intro b hbb
            exact absurd hbb (by omega)
          | succ nb ihb =>
            intro b hbb
            refine v_iload X rfl dL_isTold_21 ?_
            refine v_iconst' X kc_3 dL_isTold_23 ?_
            refine v_icmp_ge_n (tgt := 128) X dL_isTold_24 (by decide) (by omega) (by omega) (fun d2 => ?_) (fun d2 => ?_)
            · have hbd : b = 3 := by omega
              subst hbd
              refine v_aload_n X rfl dL_isTold_128 ?_
              refine v_iload X rfl dL_isTold_129 ?_
              refine v_iconst' X kc_0 dL_isTold_131 ?_
              refine v_callV (ci := 6) X mv_L_60 (c_X6_wagon l γ (wset W 10 M) nc M P T u t cn 0 tm hI (nI a) (nI 0)) rfl rfl (rd_BT γ _) rfl ⟨Nat.le_of_ble_eq_true rfl, Nat.le_of_ble_eq_true rfl, Nat.le_of_ble_eq_true rfl, Nat.le_of_ble_eq_true rfl⟩ (Nat.le_of_ble_eq_true rfl) rfl dL_isTold_132 rfl (det_i ?_)
              rw [sw_in (by omega) h6 (by decide)]
              show V p l e _ s m args below meth c γ _ _ _ _ _ _ (.int (M (120 + 8 * a + 0)) :: _)
              refine v_aload_n X rfl dL_isTold_135 ?_
              refine v_bipush' X kb_8 dL_isTold_136 ?_
              refine v_iload X rfl dL_isTold_138 ?_
              refine v_imul' X (pk_mul _ _) dL_isTold_140 ?_
              refine v_iald' X (v := (M (120 + 8 * a + 0))) (rd_W1 γ _ _) ((8 * a)) rfl (by omega) (by decide) (w_at (i := (8 * a)) (j := 120 + 8 * a + 0) (by omega) (fw_lo (by omega) (by omega))) dL_isTold_141 ?_
              refine v_icmp_ne_f (tgt := 207) X dL_isTold_142 (by decide) rfl ?_
              refine v_aload_n X rfl dL_isTold_145 ?_
              refine v_iload X rfl dL_isTold_146 ?_
              refine v_iconst' X kc_1 dL_isTold_148 ?_
              refine v_callV (ci := 6) X mv_L_60 (c_X6_wagon l γ (wset W 10 M) nc M P T u t cn 0 tm hI (nI a) (nI 1)) rfl rfl (rd_BT γ _) rfl ⟨Nat.le_of_ble_eq_true rfl, Nat.le_of_ble_eq_true rfl, Nat.le_of_ble_eq_true rfl, Nat.le_of_ble_eq_true rfl⟩ (Nat.le_of_ble_eq_true rfl) rfl dL_isTold_149 rfl (det_i ?_)
              rw [sw_in (by omega) h6 (by decide)]
              show V p l e _ s m args below meth c γ _ _ _ _ _ _ (.int (M 219 - nI (4 * a)) :: _)
              refine v_aload_n X rfl dL_isTold_152 ?_
              refine v_bipush' X kb_49 dL_isTold_153 ?_
              refine v_iald' X (v := (M (219))) (rd_W1 γ _ _) (49) rfl (by omega) (by decide) (w_at (i := 49) (j := 219) (by omega) rfl) dL_isTold_155 ?_
              refine v_iconst' X kc_4 dL_isTold_156 ?_
              refine v_iload X rfl dL_isTold_157 ?_
              refine v_imul' X (pk_mul _ _) dL_isTold_159 ?_
              refine v_isub X dL_isTold_160 ?_
              refine v_icmp_ne_f (tgt := 207) X dL_isTold_161 (by decide) rfl ?_
              refine v_aload_n X rfl dL_isTold_164 ?_
              refine v_iload X rfl dL_isTold_165 ?_
              refine v_iconst' X kc_2 dL_isTold_167 ?_
              refine v_callV (ci := 6) X mv_L_60 (c_X6_wagon l γ (wset W 10 M) nc M P T u t cn 0 tm hI (nI a) (nI 2)) rfl rfl (rd_BT γ _) rfl ⟨Nat.le_of_ble_eq_true rfl, Nat.le_of_ble_eq_true rfl, Nat.le_of_ble_eq_true rfl, Nat.le_of_ble_eq_true rfl⟩ (Nat.le_of_ble_eq_true rfl) rfl dL_isTold_168 rfl (det_i ?_)
              rw [sw_in (by omega) h6 (by decide)]
              rw [t_lev3]
              refine v_iload X rfl dL_isTold_171 ?_
              refine v_icmp_ne_f (tgt := 207) X dL_isTold_173 (by decide) rfl ?_
              refine v_aload_n X rfl dL_isTold_176 ?_
              refine v_iload X rfl dL_isTold_177 ?_
              refine v_iconst' X kc_3 dL_isTold_179 ?_
              refine v_callV (ci := 6) X mv_L_60 (c_X6_wagon l γ (wset W 10 M) nc M P T u t cn 0 tm hI (nI a) (nI 3)) rfl rfl (rd_BT γ _) rfl ⟨Nat.le_of_ble_eq_true rfl, Nat.le_of_ble_eq_true rfl, Nat.le_of_ble_eq_true rfl, Nat.le_of_ble_eq_true rfl⟩ (Nat.le_of_ble_eq_true rfl) rfl dL_isTold_180 rfl (det_i ?_)
              rw [sw_in (by omega) h6 (by decide)]
              show V p l e _ s m args below meth c γ _ _ _ _ _ _ (.int (s_cl3 M a 3) :: _)
              refine v_iload X rfl dL_isTold_183 ?_
              refine v_icmp_ne_f (tgt := 207) X dL_isTold_185 (by decide) rfl ?_
              refine v_aload_n X rfl dL_isTold_188 ?_
              refine v_iload X rfl dL_isTold_189 ?_
              refine v_iconst' X kc_4 dL_isTold_191 ?_
              refine v_callV (ci := 6) X mv_L_60 (c_X6_wagon l γ (wset W 10 M) nc M P T u t cn 0 tm hI (nI a) (nI 4)) rfl rfl (rd_BT γ _) rfl ⟨Nat.le_of_ble_eq_true rfl, Nat.le_of_ble_eq_true rfl, Nat.le_of_ble_eq_true rfl, Nat.le_of_ble_eq_true rfl⟩ (Nat.le_of_ble_eq_true rfl) rfl dL_isTold_192 rfl (det_i ?_)
              rw [sw_in (by omega) h6 (by decide)]
              show V p l e _ s m args below meth c γ _ _ _ _ _ _ (.int (M (120 + 8 * a + 1)) :: _)
              refine v_aload_n X rfl dL_isTold_195 ?_
              refine v_bipush' X kb_8 dL_isTold_196 ?_
              refine v_iload X rfl dL_isTold_198 ?_
              refine v_imul' X (pk_mul _ _) dL_isTold_200 ?_
              refine v_iconst' X kc_1 dL_isTold_201 ?_
              refine v_iadd' X (nI_add _ _) dL_isTold_202 ?_
              refine v_iald' X (v := (M (120 + 8 * a + 1))) (rd_W1 γ _ _) (((8 * a) + 1)) rfl (by omega) (by decide) (w_at (i := ((8 * a) + 1)) (j := 120 + 8 * a + 1) (by omega) (fw_lo (by omega) (by omega))) dL_isTold_203 ?_
              refine v_icmp_eq_t (tgt := 209) X dL_isTold_204 (by decide) rfl ?_
              refine v_iinc' X rfl rfl (nI_inc _) dL_isTold_209 ?_
              refine v_goto (tgt := 3) X dL_isTold_212 (by decide) ?_
              exact v_Ln (iha (a + 1) ⟨by omega, by omega⟩) ⟨Or.inr rfl, Or.inr rfl, Or.inr rfl, Or.inr rfl, Or.inr rfl, Or.inl rfl, Or.inl rfl, Or.inl rfl, trivial⟩
            · refine v_aload_n X rfl dL_isTold_27 ?_
              refine v_iload X rfl dL_isTold_28 ?_
              refine v_iload X rfl dL_isTold_30 ?_
              refine v_iconst' X kc_0 dL_isTold_32 ?_
              refine v_callV (ci := 6) X mv_L_57 (c_X6_doorOf l γ (wset W 10 M) nc M P T u t cn 0 tm hI (nI a) (nI b) (nI 0)) rfl rfl (rd_BT γ _) rfl ⟨Nat.le_of_ble_eq_true rfl, Nat.le_of_ble_eq_true rfl, Nat.le_of_ble_eq_true rfl, Nat.le_of_ble_eq_true rfl⟩ (Nat.le_of_ble_eq_true rfl) rfl dL_isTold_33 rfl (det_i ?_)
              rw [sd_in (by omega) h6 (by omega) (by decide), if_pos rfl]
              refine v_aload_n X rfl dL_isTold_36 ?_
              refine v_bipush' X kb_8 dL_isTold_37 ?_
              refine v_iload X rfl dL_isTold_39 ?_
              refine v_imul' X (pk_mul _ _) dL_isTold_41 ?_
              refine v_iconst' X kc_2 dL_isTold_42 ?_
              refine v_iadd' X (nI_add _ _) dL_isTold_43 ?_
              refine v_iload X rfl dL_isTold_44 ?_
              refine v_iadd' X (nI_add _ _) dL_isTold_46 ?_
              refine v_iald' X (v := (M (120 + 8 * a + (2 + b)))) (rd_W1 γ _ _) ((((8 * a) + 2) + b)) rfl (by omega) (by decide) (w_at (i := (((8 * a) + 2) + b)) (j := 120 + 8 * a + (2 + b)) (by omega) (fw_lo (by omega) (by omega))) dL_isTold_47 ?_
              refine v_icmp_ne_f (tgt := 75) X dL_isTold_48 (by decide) rfl ?_
              refine v_aload_n X rfl dL_isTold_51 ?_
              refine v_iload X rfl dL_isTold_52 ?_
              refine v_iload X rfl dL_isTold_54 ?_
              refine v_iconst' X kc_1 dL_isTold_56 ?_
              refine v_callV (ci := 6) X mv_L_57 (c_X6_doorOf l γ (wset W 10 M) nc M P T u t cn 0 tm hI (nI a) (nI b) (nI 1)) rfl rfl (rd_BT γ _) rfl ⟨Nat.le_of_ble_eq_true rfl, Nat.le_of_ble_eq_true rfl, Nat.le_of_ble_eq_true rfl, Nat.le_of_ble_eq_true rfl⟩ (Nat.le_of_ble_eq_true rfl) rfl dL_isTold_57 rfl (det_i ?_)
              rw [sd_in (by omega) h6 (by omega) (by decide), if_neg (by decide)]
              refine v_aload_n X rfl dL_isTold_60 ?_
              refine v_bipush' X kb_8 dL_isTold_61 ?_
              refine v_iload X rfl dL_isTold_63 ?_
              refine v_imul' X (pk_mul _ _) dL_isTold_65 ?_
              refine v_iconst' X kc_5 dL_isTold_66 ?_
              refine v_iadd' X (nI_add _ _) dL_isTold_67 ?_
              refine v_iload X rfl dL_isTold_68 ?_
              refine v_iadd' X (nI_add _ _) dL_isTold_70 ?_
              refine v_iald' X (v := (M (120 + 8 * a + (5 + b)))) (rd_W1 γ _ _) ((((8 * a) + 5) + b)) rfl (by omega) (by decide) (w_at (i := (((8 * a) + 5) + b)) (j := 120 + 8 * a + (5 + b)) (by omega) (fw_lo (by omega) (by omega))) dL_isTold_71 ?_
              refine v_icmp_eq_t (tgt := 77) X dL_isTold_72 (by decide) rfl ?_
              refine v_iload X rfl dL_isTold_77 ?_
              refine v_aload_n X rfl dL_isTold_79 ?_
              refine v_bipush' X kb_8 dL_isTold_80 ?_
              refine v_iload X rfl dL_isTold_82 ?_
              refine v_imul' X (pk_mul _ _) dL_isTold_84 ?_
              refine v_iconst' X kc_2 dL_isTold_85 ?_
              refine v_iadd' X (nI_add _ _) dL_isTold_86 ?_
              refine v_iload X rfl dL_isTold_87 ?_
              refine v_iadd' X (nI_add _ _) dL_isTold_89 ?_
              refine v_iald' X (v := (M (120 + 8 * a + (2 + b)))) (rd_W1 γ _ _) ((((8 * a) + 2) + b)) rfl (by omega) (by decide) (w_at (i := (((8 * a) + 2) + b)) (j := 120 + 8 * a + (2 + b)) (by omega) (fw_lo (by omega) (by omega))) dL_isTold_90 ?_
              refine v_iadd X dL_isTold_91 ?_
              show V p l e _ s m args below meth c γ _ _ _ _ _ _ (.int (t_lev M a (b + 1)) :: _)
              refine v_istore X (Nat.le_of_ble_eq_true rfl) rfl dL_isTold_92 ?_
              refine v_iload X rfl dL_isTold_94 ?_
              refine v_aload_n X rfl dL_isTold_96 ?_
              refine v_bipush' X kb_8 dL_isTold_97 ?_
              refine v_iload X rfl dL_isTold_99 ?_
              refine v_imul' X (pk_mul _ _) dL_isTold_101 ?_
              refine v_iconst' X kc_5 dL_isTold_102 ?_
              refine v_iadd' X (nI_add _ _) dL_isTold_103 ?_
              refine v_iload X rfl dL_isTold_104 ?_
              refine v_iadd' X (nI_add _ _) dL_isTold_106 ?_
              refine v_iald' X (v := (M (120 + 8 * a + (5 + b)))) (rd_W1 γ _ _) ((((8 * a) + 5) + b)) rfl (by omega) (by decide) (w_at (i := (((8 * a) + 5) + b)) (j := 120 + 8 * a + (5 + b)) (by omega) (fw_lo (by omega) (by omega))) dL_isTold_107 ?_
              refine v_sipush' X ks_m1001 dL_isTold_108 ?_
              refine v_icmp_ne (tgt := 118) X dL_isTold_111 (by decide) (fun r1 => ?_) (fun r1 => ?_)
              · have hs := (s_cl3N (M := M) (a := a) (n := b) r1).symm
                refine v_iconst' X kc_1 dL_isTold_118 ?_
                refine v_iadd X dL_isTold_119 ?_
                rw [hs]
                refine v_istore X (Nat.le_of_ble_eq_true rfl) rfl dL_isTold_120 ?_
                refine v_iinc' X rfl rfl (nI_inc _) dL_isTold_122 ?_
                refine v_goto (tgt := 21) X dL_isTold_125 (by decide) ?_
                exact (ihb (b + 1) ⟨by omega, by omega⟩)
              · have hs := (s_cl3P (M := M) (a := a) (n := b) r1).symm
                refine v_iconst' X kc_0 dL_isTold_114 ?_
                refine v_goto (tgt := 119) X dL_isTold_115 (by decide) ?_
                refine v_iadd X dL_isTold_119 ?_
                rw [hs]
                refine v_istore X (Nat.le_of_ble_eq_true rfl) rfl dL_isTold_120 ?_
                refine v_iinc' X rfl rfl (nI_inc _) dL_isTold_122 ?_
                refine v_goto (tgt := 21) X dL_isTold_125 (by decide) ?_
                exact (ihb (b + 1) ⟨by omega, by omega⟩)
        exact (lp21 4 0 ⟨by omega, by omega⟩)
  exact v_Ln (lp3 (cn + 1) 0 ⟨by omega, by omega⟩) ⟨Or.inr rfl, Or.inr rfl, Or.inr rfl, Or.inr rfl, Or.inr rfl, Or.inl rfl, Or.inl rfl, Or.inl rfl, trivial⟩
