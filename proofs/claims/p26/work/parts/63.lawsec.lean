/-! the law's own second -/
theorem it_S (f : (Nat → Int32) → Nat → Nat → Nat → Int32) (g : Nat → Int32) {a b : Nat} (hb : b < 3) : f (q_it (fun M k => f M (k / 3) (k % 3)) g (3 * a + b)) a b = q_it (fun M k => f M (k / 3) (k % 3)) g (3 * a + (b + 1)) := by
  show f _ a b = f _ ((3 * a + b) / 3) ((3 * a + b) % 3)
  rw [show (3 * a + b) / 3 = a by omega, show (3 * a + b) % 3 = b by omega]
  rfl
theorem q_slidesN_S (g : Nat → Int32) {a b : Nat} (hb : b < 3) : q_slides (q_slidesN g (3 * a + b)) a b = q_slidesN g (3 * a + (b + 1)) := it_S q_slides g hb
theorem q_closesN_S (g : Nat → Int32) {a b : Nat} (hb : b < 3) : q_closes (q_closesN g (3 * a + b)) a b = q_closesN g (3 * a + (b + 1)) := it_S q_closes g hb
theorem fal_o {N : Nat → Int32} {a b : Nat} {C : Int32} (ha : a < 6) (hC : N 219 - nI (4 * a) = C) (h : ¬ (¬ C < nI 0 ∧ ¬ nI 39 < C)) : upd (q_f2 N a b) 226 (q_f2 N a b 226 + q_u N a b) = q_falls N a b := by
  rw [← fall_land N ha, hC]
  unfold c_land
  rw [if_neg h]
theorem fal_i {N : Nat → Int32} {a b j : Nat} {C : Int32} (ha : a < 6) (hC : N 219 - nI (4 * a) = C) (hj : j ≤ 39) (e : C = nI j) : upd (q_f2 N a b) (3 * j + b) (q_f2 N a b (3 * j + b) + q_u N a b) = q_falls N a b := by
  rw [← fall_land N ha, hC, e]
  unfold c_land
  rw [if_pos (nI_in0 hj (by decide)), nI_clamp (by omega)]
theorem sl_eq (N : Nat → Int32) (a b : Nat) (u : Int32) (hu : u = q_unit (q_by N a b) (N 228)) : upd (upd N (3 * a + b) (N (3 * a + b) + -u)) (3 * (a + 1) + b) (upd N (3 * a + b) (N (3 * a + b) + -u) (3 * (a + 1) + b) + u) = q_slides N a b := by
  subst hu
  unfold q_slides q_s1
  rw [← Int32.sub_eq_add_neg, show 3 * (a + 1) + b = 3 * a + 3 + b by omega]
theorem sp_t {N : Nat → Int32} {a b : Nat} (h : q_over N a b ≤ 0) : q_spills N a b = N := by
  unfold q_spills q_p1 q_pos
  rw [if_pos h, nI_0, Int32.sub_zero, Int32.add_zero, upd_same rfl, upd_same rfl]
theorem sp_f {N : Nat → Int32} {a b : Nat} (h : ¬ q_over N a b ≤ 0) : upd (upd N (3 * a + b) (N (3 * a + b) + -(q_over N a b))) 226 (upd N (3 * a + b) (N (3 * a + b) + -(q_over N a b)) 226 + q_over N a b) = q_spills N a b := by
  unfold q_spills q_p1 q_pos
  rw [if_neg h, ← Int32.sub_eq_add_neg]
theorem cl_z {N : Nat → Int32} {a b : Nat} {u : Int32} (ha : a < 6) (hb : b < 3) (h : N (120 + 8 * a + (5 + b)) = 0) (hu : q_jam N a = u) : upd (upd (upd N (120 + 8 * a + (2 + b)) u) 224 (upd N (120 + 8 * a + (2 + b)) u 224 + u)) (120 + 8 * a + (5 + b)) (-1001) = q_closes N a b := by
  subst hu
  unfold q_closes q_c1
  rw [if_pos (by rw [h]; decide), if_pos h, upd_swap (by omega), pk_un (by omega : (224 : Nat) ≠ 120 + 8 * a + (5 + b))]
theorem cl_n {N : Nat → Int32} {a b : Nat} (h : N (120 + 8 * a + (5 + b)) ≤ 0) (h2 : ¬ N (120 + 8 * a + (5 + b)) = 0) : q_closes N a b = N := by
  unfold q_closes
  rw [if_pos h, if_neg h2]
theorem cl_p {N : Nat → Int32} {a b : Nat} (h : ¬ N (120 + 8 * a + (5 + b)) ≤ 0) : upd N (120 + 8 * a + (5 + b)) (N (120 + 8 * a + (5 + b)) - nI 1) = q_closes N a b := by
  unfold q_closes
  rw [if_neg h]
theorem by_neg {N : Nat → Int32} {a b : Nat} (hB : HB N 1000) (ha : a < 39) (hb : b < 3) (hz : 0 ≤ (N 228).toInt) : (-(N 228) ≤ q_by N a b ↔ -(q_by N a b) ≤ N 228) := by
  have b1 := hB (3 * a + b) (by omega)
  have b2 := hB (3 * a + 3 + b) (by omega)
  have e1 : (N (3 * a + b) - N (3 * a + 3 + b)).toInt = _ := i_sub (by omega) (by omega)
  have e2 : (-(N 228)).toInt = _ := i_neg (by omega)
  unfold q_by
  have e3 : (-(N (3 * a + b) - N (3 * a + 3 + b))).toInt = _ := i_neg (by omega)
  rw [i_le, i_le, e1, e2, e3, e1]
  omega
set_option maxHeartbeats 4000000 in
set_option maxRecDepth 100000 in
theorem c_L_second (l : Launch) (γ : Gm) (w : Wd) (M : Nat → Int32) (cn : Nat) (B N9 : Int) (hv : VS M cn 0 B) (hi : IV M N9) (hN : N9 ≤ 1000) : Cr l γ yL_second cL_second 7 none 2 50 0 0 [.ref (γ.1 + 86), .ref (γ.1 + 87), .ref (γ.1 + 88)] (rdw γ (wset w 10 M)) (Det none (rdw γ (wset w 10 (q_second M)))) := by
  have hc := hv.1.1
  have h1 := hv.1.2.1
  have h6 := hv.1.2.2
  obtain ⟨-, qq, hqq, hV⟩ := VS_pre hv
  have hp18 : q_pre M 218 = nI cn := hV.1.1
  have hz28 : 0 ≤ (M 228).toInt := SR_0 hv.2.2.2.2
  have hz29 : 0 ≤ (M 229).toInt := SR_1 hv.2.2.2.2
  have e28 : ∀ i, 228 ≤ i → i < 233 → (q_fallsN (q_pre M) (3 * cn)) i = M i := fun i x z => (q_fallsN_off _ (by omega) (by omega) (by omega)).trans (by rw [pre_0 hv]; exact q_pp_off M (by omega) (by omega))
  have hF : IV (q_fallsN (q_pre M) (3 * cn)) N9 := (IV_fallsN h6 hV.2.2.1 (IV_pre hv hi) hN (3 * cn) (by omega)).2
  have hS : ∀ n, n ≤ 117 → IV (q_slidesN (q_fallsN (q_pre M) (3 * cn)) n) N9 := IV_slidesN hF hN (by rw [e28 228 (by omega) (by omega)]; exact hz28)
  have hP : ∀ n, n ≤ 40 → IV (q_spillsN (q_slidesN (q_fallsN (q_pre M) (3 * cn)) 117) n) N9 := IV_spillsN (hS 117 (by omega)) hN (by rw [q_slidesN_off _ (by omega) (by omega), e28 229 (by omega) (by omega)]; exact hz29)
  have h18 : (q_spillsN (q_slidesN (q_fallsN (q_pre M) (3 * cn)) 117) 40) 218 = nI cn := (q_spillsN_off _ (by omega) (by omega) (by omega)).trans ((q_slidesN_off _ (by omega) (by omega)).trans ((q_fallsN_off _ (by omega) (by omega) (by omega)).trans hp18))
  refine Cr_of [some (.ref (γ.1 + 86)), some (.ref (γ.1 + 87)), some (.ref (γ.1 + 88)), none, none, none, none] (by decide +kernel) (Nat.le_of_ble_eq_true rfl) rfl ?_
  intro p e s m args below meth c X
  refine v_q0 (fun Q0 hQ0 => ?_)
  refine v_aload_n X rfl dL_second_0 ?_
  refine v_bipush' X kb_50 dL_second_1 ?_
  refine v_dup2 X rfl rfl dL_second_3 ?_
  refine v_iald' X (v := (M (220))) (rd_W1 γ _ _) (50) rfl (by omega) (by decide) (w_at (i := 50) (j := 220) (by omega) rfl) dL_second_4 ?_
  refine v_aload_n X rfl dL_second_5 ?_
  refine v_bipush' X kb_51 dL_second_6 ?_
  refine v_iald' X (v := (M (221))) (rd_W1 γ _ _) (51) rfl (by omega) (by decide) (w_at (i := 51) (j := 221) (by omega) rfl) dL_second_8 ?_
  refine v_aload_n X rfl dL_second_9 ?_
  refine v_bipush' X kb_50 dL_second_10 ?_
  refine v_iald' X (v := (M (220))) (rd_W1 γ _ _) (50) rfl (by omega) (by decide) (w_at (i := 50) (j := 220) (by omega) rfl) dL_second_12 ?_
  have jn36 : ∀ (u : Int32), u = (if M 221 ≤ M 220 then (if M 220 ≤ M 221 then nI 0 else (-1)) else nI 1) → V p l e { frames := 2, cells := 0, slots := 0, locals := 50 } s m args below meth c γ Q0 (rdw γ (wset w 10 M)) 0 0 36 [some (.ref (γ.1 + 86)), some (.ref (γ.1 + 87)), some (.ref (γ.1 + 88)), none, none, none, none] [.int u, .int (M 220), .int (nI 50), .ref (γ.1 + 87)] := by
    intro u hu
    subst hu
    refine v_iadd X dL_second_36 ?_
    refine v_iast X (rd_W1 γ _ _) (50) rfl (by omega) (by decide) dL_second_37 ?_
    refine v_eqh (up_W1 (i := 50) (j := 220) γ _ _ (by omega) rfl _) ?_
    show V p l e _ s m args below meth c γ _ (rdw γ (wset w 10 (q_speed M))) _ _ _ _ _
    refine v_aload_n X rfl dL_second_38 ?_
    refine v_bipush' X kb_49 dL_second_39 ?_
    refine v_aload_n X rfl dL_second_41 ?_
    refine v_bipush' X kb_49 dL_second_42 ?_
    refine v_iald' X (v := ((q_speed M) (219))) (rd_W1 γ _ _) (49) rfl (by omega) (by decide) (w_at (i := 49) (j := 219) (by omega) rfl) dL_second_44 ?_
    refine v_aload_n X rfl dL_second_45 ?_
    refine v_bipush' X kb_50 dL_second_46 ?_
    refine v_iald' X (v := ((q_speed M) (220))) (rd_W1 γ _ _) (50) rfl (by omega) (by decide) (w_at (i := 50) (j := 220) (by omega) rfl) dL_second_48 ?_
    refine v_iadd X dL_second_49 ?_
    refine v_bipush' X kb_99 dL_second_50 ?_
    have jn69 : ∀ (u : Int32), u = (if nI 99 < q_speed M 219 + q_speed M 220 then nI 99 else q_speed M 219 + q_speed M 220) → V p l e { frames := 2, cells := 0, slots := 0, locals := 50 } s m args below meth c γ Q0 (rdw γ (wset w 10 (q_speed M))) 0 0 69 [some (.ref (γ.1 + 86)), some (.ref (γ.1 + 87)), some (.ref (γ.1 + 88)), none, none, none, none] [.int u, .int (nI 49), .ref (γ.1 + 87)] := by
      intro u hu
      subst hu
      refine v_iast X (rd_W1 γ _ _) (49) rfl (by omega) (by decide) dL_second_69 ?_
      refine v_eqh (up_W1 (i := 49) (j := 219) γ _ _ (by omega) rfl _) ?_
      show V p l e _ s m args below meth c γ _ (rdw γ (wset w 10 (q_place (q_speed M)))) _ _ _ _ _
      rw [← pre_0 hv]
      refine v_aload_n X rfl dL_second_70 ?_
      refine v_aload_n X rfl dL_second_71 ?_
      refine v_callS X ms_L_22 (c_L_orders l γ _) rfl ⟨Nat.le_of_ble_eq_true rfl, Nat.le_of_ble_eq_true rfl, Nat.le_of_ble_eq_true rfl, Nat.le_of_ble_eq_true rfl⟩ (Nat.le_of_ble_eq_true rfl) rfl dL_second_72 rfl (det_v ?_)
      refine v_iconst' X kc_0 dL_second_75 ?_
      refine v_istore_n X (Nat.le_of_ble_eq_true rfl) rfl dL_second_76 ?_
      have lp77 : ∀ (na : Nat) (a : Nat), a ≤ cn ∧ cn + 1 ≤ a + na → V p l e { frames := 2, cells := 0, slots := 0, locals := 50 } s m args below meth c γ Q0 (rdw γ (wset w 10 (q_fallsN (q_pre M) (3 * a)))) 0 0 77 [some (.ref (γ.1 + 86)), some (.ref (γ.1 + 87)), some (.ref (γ.1 + 88)), some (.int (nI a)), none, none, none] [] := by
        intro na
        induction na with
        | zero =>
          intro a hbna
          exact absurd hbna (by omega)
        | succ na ihna =>
          intro a hbna
          refine v_iload_n X rfl dL_second_77 ?_
          refine v_aload_n X rfl dL_second_78 ?_
          refine v_bipush' X kb_48 dL_second_79 ?_
          refine v_iald' X (v := nI cn) (rd_W1 γ _ _) (48) rfl (by omega) (by decide) ((w_at (i := 48) (j := 218) (by omega) rfl).trans ((q_fallsN_off _ (by omega) (by omega) (by omega)).trans hp18)) dL_second_81 ?_
          refine v_icmp_ge_n (tgt := 216) X dL_second_82 (by decide) (by omega) (by omega) (fun d1 => ?_) (fun d1 => ?_)
          · have had : cn = a := by omega
            subst had
            refine v_iconst' X kc_0 dL_second_216 ?_
            refine v_istore_n X (Nat.le_of_ble_eq_true rfl) rfl dL_second_217 ?_
            have lp218 : ∀ (nc : Nat) (a : Nat), a ≤ 39 ∧ 39 + 1 ≤ a + nc → V p l e { frames := 2, cells := 0, slots := 0, locals := 50 } s m args below meth c γ Q0 (rdw γ (wset w 10 (q_slidesN (q_fallsN (q_pre M) (3 * cn)) (3 * a)))) 0 0 218 [some (.ref (γ.1 + 86)), some (.ref (γ.1 + 87)), some (.ref (γ.1 + 88)), some (.int (nI a)), none, none, none] [] := by
              intro nc
              induction nc with
              | zero =>
                intro a hbnc
                exact absurd hbnc (by omega)
              | succ nc ihnc =>
                intro a hbnc
                refine v_iload_n X rfl dL_second_218 ?_
                refine v_bipush' X kb_39 dL_second_219 ?_
                refine v_icmp_ge_n (tgt := 315) X dL_second_221 (by decide) (by omega) (by omega) (fun d1 => ?_) (fun d1 => ?_)
                · have had : a = 39 := by omega
                  subst had
                  refine v_iconst' X kc_0 dL_second_315 ?_
                  refine v_istore_n X (Nat.le_of_ble_eq_true rfl) rfl dL_second_316 ?_
                  have lp317 : ∀ (ne : Nat) (a : Nat), a ≤ 40 ∧ 40 + 1 ≤ a + ne → V p l e { frames := 2, cells := 0, slots := 0, locals := 50 } s m args below meth c γ Q0 (rdw γ (wset w 10 (q_spillsN (q_slidesN (q_fallsN (q_pre M) (3 * cn)) 117) a))) 0 0 317 [some (.ref (γ.1 + 86)), some (.ref (γ.1 + 87)), some (.ref (γ.1 + 88)), some (.int (nI a)), none, none, none] [] := by
                    intro ne
                    induction ne with
                    | zero =>
                      intro a hbne
                      exact absurd hbne (by omega)
                    | succ ne ihne =>
                      intro a hbne
                      refine v_iload_n X rfl dL_second_317 ?_
                      refine v_bipush' X kb_40 dL_second_318 ?_
                      refine v_icmp_ge_n (tgt := 382) X dL_second_320 (by decide) (by omega) (by omega) (fun d1 => ?_) (fun d1 => ?_)
                      · have had : a = 40 := by omega
                        subst had
                        refine v_iconst' X kc_0 dL_second_382 ?_
                        refine v_istore_n X (Nat.le_of_ble_eq_true rfl) rfl dL_second_383 ?_
                        have lp384 : ∀ (nf : Nat) (a : Nat), a ≤ cn ∧ cn + 1 ≤ a + nf → V p l e { frames := 2, cells := 0, slots := 0, locals := 50 } s m args below meth c γ Q0 (rdw γ (wset w 10 (q_closesN (q_spillsN (q_slidesN (q_fallsN (q_pre M) (3 * cn)) 117) 40) (3 * a)))) 0 0 384 [some (.ref (γ.1 + 86)), some (.ref (γ.1 + 87)), some (.ref (γ.1 + 88)), some (.int (nI a)), none, none, none] [] := by
                          intro nf
                          induction nf with
                          | zero =>
                            intro a hbnf
                            exact absurd hbnf (by omega)
                          | succ nf ihnf =>
                            intro a hbnf
                            refine v_iload_n X rfl dL_second_384 ?_
                            refine v_aload_n X rfl dL_second_385 ?_
                            refine v_bipush' X kb_48 dL_second_386 ?_
                            refine v_iald' X (v := nI cn) (rd_W1 γ _ _) (48) rfl (by omega) (by decide) ((w_at (i := 48) (j := 218) (by omega) rfl).trans ((q_closesN_off _ (by omega) (by omega) (by omega)).trans h18)) dL_second_388 ?_
                            refine v_icmp_ge_n (tgt := 509) X dL_second_389 (by decide) (by omega) (by omega) (fun d1 => ?_) (fun d1 => ?_)
                            · have had : cn = a := by omega
                              subst had
                              refine v_aload_n X rfl dL_second_509 ?_
                              refine v_bipush' X kb_52 dL_second_510 ?_
                              refine v_dup2 X rfl rfl dL_second_512 ?_
                              refine v_iald' X (v := ((q_closesN (q_spillsN (q_slidesN (q_fallsN (q_pre M) (3 * cn)) 117) 40) (3 * cn)) (222))) (rd_W1 γ _ _) (52) rfl (by omega) (by decide) (w_at (i := 52) (j := 222) (by omega) rfl) dL_second_513 ?_
                              refine v_iconst' X kc_1 dL_second_514 ?_
                              refine v_iadd X dL_second_515 ?_
                              refine v_iast X (rd_W1 γ _ _) (52) rfl (by omega) (by decide) dL_second_516 ?_
                              refine v_eqh (up_W1 (i := 52) (j := 222) γ _ _ (by omega) rfl _) ?_
                              subst hQ0
                              exact v_vret X rfl (Nat.le_of_ble_eq_true rfl) (Nat.le_of_ble_eq_true rfl) dL_second_517 ⟨rfl, by rw [q_second1 hc h6]; rfl⟩
                            · refine v_iconst' X kc_0 dL_second_392 ?_
                              refine v_istore X (Nat.le_of_ble_eq_true rfl) rfl dL_second_393 ?_
                              have lp395 : ∀ (ng : Nat) (b : Nat), b ≤ 3 ∧ 3 + 1 ≤ b + ng → V p l e { frames := 2, cells := 0, slots := 0, locals := 50 } s m args below meth c γ Q0 (rdw γ (wset w 10 (q_closesN (q_spillsN (q_slidesN (q_fallsN (q_pre M) (3 * cn)) 117) 40) (3 * a + b)))) 0 0 395 [some (.ref (γ.1 + 86)), some (.ref (γ.1 + 87)), some (.ref (γ.1 + 88)), some (.int (nI a)), some (.int (nI b)), none, none] [] := by
                                intro ng
                                induction ng with
                                | zero =>
                                  intro b hbng
                                  exact absurd hbng (by omega)
                                | succ ng ihng =>
                                  intro b hbng
                                  refine v_iload X rfl dL_second_395 ?_
                                  refine v_iconst' X kc_3 dL_second_397 ?_
                                  refine v_icmp_ge_n (tgt := 503) X dL_second_398 (by decide) (by omega) (by omega) (fun d2 => ?_) (fun d2 => ?_)
                                  · have hbd : b = 3 := by omega
                                    subst hbd
                                    refine v_iinc' X rfl rfl (nI_inc _) dL_second_503 ?_
                                    refine v_goto (tgt := 384) X dL_second_506 (by decide) ?_
                                    exact v_Ln (ihnf (a + 1) ⟨by omega, by omega⟩) ⟨Or.inr rfl, Or.inr rfl, Or.inr rfl, Or.inr rfl, Or.inl rfl, Or.inl rfl, Or.inl rfl, trivial⟩
                                  · refine v_bipush' X kb_8 dL_second_401 ?_
                                    refine v_iload_n X rfl dL_second_403 ?_
                                    refine v_imul' X (pk_mul _ _) dL_second_404 ?_
                                    refine v_iconst' X kc_5 dL_second_405 ?_
                                    refine v_iadd' X (nI_add _ _) dL_second_406 ?_
                                    refine v_iload X rfl dL_second_407 ?_
                                    refine v_iadd' X (nI_add _ _) dL_second_409 ?_
                                    refine v_istore X (Nat.le_of_ble_eq_true rfl) rfl dL_second_410 ?_
                                    refine v_aload_n X rfl dL_second_412 ?_
                                    refine v_iload X rfl dL_second_413 ?_
                                    refine v_iald' X (v := ((q_closesN (q_spillsN (q_slidesN (q_fallsN (q_pre M) (3 * cn)) 117) 40) (3 * a + b)) (120 + 8 * a + (5 + b)))) (rd_W1 γ _ _) ((((8 * a) + 5) + b)) rfl (by omega) (by decide) (w_at (i := (((8 * a) + 5) + b)) (j := 120 + 8 * a + (5 + b)) (by omega) (fw_lo (by omega) (by omega))) dL_second_415 ?_
                                    refine v_if_ne (tgt := 482) X dL_second_416 (by decide) (fun r9 => ?_) (fun r9 => ?_)
                                    · have r9 := r9
                                      refine v_aload_n X rfl dL_second_482 ?_
                                      refine v_iload X rfl dL_second_483 ?_
                                      refine v_iald' X (v := ((q_closesN (q_spillsN (q_slidesN (q_fallsN (q_pre M) (3 * cn)) 117) 40) (3 * a + b)) (120 + 8 * a + (5 + b)))) (rd_W1 γ _ _) ((((8 * a) + 5) + b)) rfl (by omega) (by decide) (w_at (i := (((8 * a) + 5) + b)) (j := 120 + 8 * a + (5 + b)) (by omega) (fw_lo (by omega) (by omega))) dL_second_485 ?_
                                      refine v_if_le (tgt := 497) X dL_second_486 (by decide) (fun r11 => ?_) (fun r11 => ?_)
                                      · rw [show (q_closesN (q_spillsN (q_slidesN (q_fallsN (q_pre M) (3 * cn)) 117) 40) (3 * a + b)) = q_closesN (q_spillsN (q_slidesN (q_fallsN (q_pre M) (3 * cn)) 117) 40) (3 * a + (b + 1)) from (cl_n r11 r9).symm.trans (q_closesN_S _ (by omega))]
                                        refine v_iinc' X rfl rfl (nI_inc _) dL_second_497 ?_
                                        refine v_goto (tgt := 395) X dL_second_500 (by decide) ?_
                                        exact v_Ln (ihng (b + 1) ⟨by omega, by omega⟩) ⟨Or.inr rfl, Or.inr rfl, Or.inr rfl, Or.inr rfl, Or.inr rfl, Or.inl rfl, Or.inl rfl, trivial⟩
                                      · refine v_aload_n X rfl dL_second_489 ?_
                                        refine v_iload X rfl dL_second_490 ?_
                                        refine v_dup2 X rfl rfl dL_second_492 ?_
                                        refine v_iald' X (v := ((q_closesN (q_spillsN (q_slidesN (q_fallsN (q_pre M) (3 * cn)) 117) 40) (3 * a + b)) (120 + 8 * a + (5 + b)))) (rd_W1 γ _ _) ((((8 * a) + 5) + b)) rfl (by omega) (by decide) (w_at (i := (((8 * a) + 5) + b)) (j := 120 + 8 * a + (5 + b)) (by omega) (fw_lo (by omega) (by omega))) dL_second_493 ?_
                                        refine v_iconst' X kc_1 dL_second_494 ?_
                                        refine v_isub X dL_second_495 ?_
                                        refine v_iast X (rd_W1 γ _ _) ((((8 * a) + 5) + b)) rfl (by omega) (by decide) dL_second_496 ?_
                                        refine v_eqh (up_W1 (i := (((8 * a) + 5) + b)) (j := 120 + 8 * a + (5 + b)) γ _ _ (by omega) (fw_lo (by omega) (by omega)) _) ?_
                                        rw [cl_p r11, q_closesN_S _ (by omega)]
                                        refine v_iinc' X rfl rfl (nI_inc _) dL_second_497 ?_
                                        refine v_goto (tgt := 395) X dL_second_500 (by decide) ?_
                                        exact v_Ln (ihng (b + 1) ⟨by omega, by omega⟩) ⟨Or.inr rfl, Or.inr rfl, Or.inr rfl, Or.inr rfl, Or.inr rfl, Or.inl rfl, Or.inl rfl, trivial⟩
                                    · refine v_aload_n X rfl dL_second_419 ?_
                                      refine v_bipush' X kb_8 dL_second_420 ?_
                                      refine v_iload_n X rfl dL_second_422 ?_
                                      refine v_imul' X (pk_mul _ _) dL_second_423 ?_
                                      refine v_iald' X (v := ((q_closesN (q_spillsN (q_slidesN (q_fallsN (q_pre M) (3 * cn)) 117) 40) (3 * a + b)) (120 + 8 * a + 0))) (rd_W1 γ _ _) ((8 * a)) rfl (by omega) (by decide) (w_at (i := (8 * a)) (j := 120 + 8 * a + 0) (by omega) (fw_lo (by omega) (by omega))) dL_second_424 ?_
                                      refine v_aload_n X rfl dL_second_425 ?_
                                      refine v_bipush' X kb_60 dL_second_426 ?_
                                      refine v_iald' X (v := ((q_closesN (q_spillsN (q_slidesN (q_fallsN (q_pre M) (3 * cn)) 117) 40) (3 * a + b)) (231))) (rd_W1 γ _ _) (60) rfl (by omega) (by decide) (w_at (i := 60) (j := 231) (by omega) rfl) dL_second_428 ?_
                                      refine v_icmp_le (tgt := 436) X dL_second_429 (by decide) (fun r10 => ?_) (fun r10 => ?_)
                                      · have hjam : q_jam (q_closesN (q_spillsN (q_slidesN (q_fallsN (q_pre M) (3 * cn)) 117) 40) (3 * a + b)) a = nI 0 := if_pos r10
                                        refine v_iconst' X kc_0 dL_second_436 ?_
                                        refine v_istore X (Nat.le_of_ble_eq_true rfl) rfl dL_second_437 ?_
                                        refine v_aload_n X rfl dL_second_439 ?_
                                        refine v_iload X rfl dL_second_440 ?_
                                        refine v_iconst' X kc_3 dL_second_442 ?_
                                        refine v_isub' X (v := nI (8 * a + 2 + b)) ((pk_sub (by omega)).trans (congrArg nI (by omega))) dL_second_443 ?_
                                        refine v_iload X rfl dL_second_444 ?_
                                        refine v_if_eq_t (tgt := 453) X dL_second_446 (by decide) (by decide) ?_
                                        refine v_iconst' X kc_0 dL_second_453 ?_
                                        refine v_iast X (rd_W1 γ _ _) ((8 * a + 2 + b)) rfl (by omega) (by decide) dL_second_454 ?_
                                        refine v_eqh (up_W1 (i := (8 * a + 2 + b)) (j := 120 + 8 * a + (2 + b)) γ _ _ (by omega) (fw_lo (by omega) (by omega)) _) ?_
                                        refine v_aload_n X rfl dL_second_455 ?_
                                        refine v_bipush' X kb_53 dL_second_456 ?_
                                        refine v_dup2 X rfl rfl dL_second_458 ?_
                                        refine v_iald' X (v := ((upd (q_closesN (q_spillsN (q_slidesN (q_fallsN (q_pre M) (3 * cn)) 117) 40) (3 * a + b)) (120 + 8 * a + (2 + b)) (nI 0)) (224))) (rd_W1 γ _ _) (53) rfl (by omega) (by decide) (w_at (i := 53) (j := 224) (by omega) rfl) dL_second_459 ?_
                                        refine v_iload X rfl dL_second_460 ?_
                                        refine v_if_eq_t (tgt := 469) X dL_second_462 (by decide) (by decide) ?_
                                        refine v_iconst' X kc_0 dL_second_469 ?_
                                        refine v_iadd X dL_second_470 ?_
                                        refine v_iast X (rd_W1 γ _ _) (53) rfl (by omega) (by decide) dL_second_471 ?_
                                        refine v_eqh (up_W1 (i := 53) (j := 224) γ _ _ (by omega) rfl _) ?_
                                        refine v_aload_n X rfl dL_second_472 ?_
                                        refine v_iload X rfl dL_second_473 ?_
                                        refine v_sipush' X ks_m1001 dL_second_475 ?_
                                        refine v_iast X (rd_W1 γ _ _) ((((8 * a) + 5) + b)) rfl (by omega) (by decide) dL_second_478 ?_
                                        refine v_eqh (up_W1 (i := (((8 * a) + 5) + b)) (j := 120 + 8 * a + (5 + b)) γ _ _ (by omega) (fw_lo (by omega) (by omega)) _) ?_
                                        rw [cl_z (by omega) (by omega) r9 hjam, q_closesN_S _ (by omega)]
                                        refine v_goto (tgt := 497) X dL_second_479 (by decide) ?_
                                        refine v_iinc' X rfl rfl (nI_inc _) dL_second_497 ?_
                                        refine v_goto (tgt := 395) X dL_second_500 (by decide) ?_
                                        exact v_Ln (ihng (b + 1) ⟨by omega, by omega⟩) ⟨Or.inr rfl, Or.inr rfl, Or.inr rfl, Or.inr rfl, Or.inr rfl, Or.inl rfl, Or.inl rfl, trivial⟩
                                      · have hjam : q_jam (q_closesN (q_spillsN (q_slidesN (q_fallsN (q_pre M) (3 * cn)) 117) 40) (3 * a + b)) a = nI 1 := if_neg r10
                                        refine v_iconst' X kc_1 dL_second_432 ?_
                                        refine v_goto (tgt := 437) X dL_second_433 (by decide) ?_
                                        refine v_istore X (Nat.le_of_ble_eq_true rfl) rfl dL_second_437 ?_
                                        refine v_aload_n X rfl dL_second_439 ?_
                                        refine v_iload X rfl dL_second_440 ?_
                                        refine v_iconst' X kc_3 dL_second_442 ?_
                                        refine v_isub' X (v := nI (8 * a + 2 + b)) ((pk_sub (by omega)).trans (congrArg nI (by omega))) dL_second_443 ?_
                                        refine v_iload X rfl dL_second_444 ?_
                                        refine v_if_eq_f (tgt := 453) X dL_second_446 (by decide) (by decide) ?_
                                        refine v_iconst' X kc_1 dL_second_449 ?_
                                        refine v_goto (tgt := 454) X dL_second_450 (by decide) ?_
                                        refine v_iast X (rd_W1 γ _ _) ((8 * a + 2 + b)) rfl (by omega) (by decide) dL_second_454 ?_
                                        refine v_eqh (up_W1 (i := (8 * a + 2 + b)) (j := 120 + 8 * a + (2 + b)) γ _ _ (by omega) (fw_lo (by omega) (by omega)) _) ?_
                                        refine v_aload_n X rfl dL_second_455 ?_
                                        refine v_bipush' X kb_53 dL_second_456 ?_
                                        refine v_dup2 X rfl rfl dL_second_458 ?_
                                        refine v_iald' X (v := ((upd (q_closesN (q_spillsN (q_slidesN (q_fallsN (q_pre M) (3 * cn)) 117) 40) (3 * a + b)) (120 + 8 * a + (2 + b)) (nI 1)) (224))) (rd_W1 γ _ _) (53) rfl (by omega) (by decide) (w_at (i := 53) (j := 224) (by omega) rfl) dL_second_459 ?_
                                        refine v_iload X rfl dL_second_460 ?_
                                        refine v_if_eq_f (tgt := 469) X dL_second_462 (by decide) (by decide) ?_
                                        refine v_iconst' X kc_1 dL_second_465 ?_
                                        refine v_goto (tgt := 470) X dL_second_466 (by decide) ?_
                                        refine v_iadd X dL_second_470 ?_
                                        refine v_iast X (rd_W1 γ _ _) (53) rfl (by omega) (by decide) dL_second_471 ?_
                                        refine v_eqh (up_W1 (i := 53) (j := 224) γ _ _ (by omega) rfl _) ?_
                                        refine v_aload_n X rfl dL_second_472 ?_
                                        refine v_iload X rfl dL_second_473 ?_
                                        refine v_sipush' X ks_m1001 dL_second_475 ?_
                                        refine v_iast X (rd_W1 γ _ _) ((((8 * a) + 5) + b)) rfl (by omega) (by decide) dL_second_478 ?_
                                        refine v_eqh (up_W1 (i := (((8 * a) + 5) + b)) (j := 120 + 8 * a + (5 + b)) γ _ _ (by omega) (fw_lo (by omega) (by omega)) _) ?_
                                        rw [cl_z (by omega) (by omega) r9 hjam, q_closesN_S _ (by omega)]
                                        refine v_goto (tgt := 497) X dL_second_479 (by decide) ?_
                                        refine v_iinc' X rfl rfl (nI_inc _) dL_second_497 ?_
                                        refine v_goto (tgt := 395) X dL_second_500 (by decide) ?_
                                        exact v_Ln (ihng (b + 1) ⟨by omega, by omega⟩) ⟨Or.inr rfl, Or.inr rfl, Or.inr rfl, Or.inr rfl, Or.inr rfl, Or.inl rfl, Or.inl rfl, trivial⟩
                              exact v_Ln (lp395 4 0 ⟨by omega, by omega⟩) ⟨Or.inr rfl, Or.inr rfl, Or.inr rfl, Or.inr rfl, Or.inr rfl, Or.inl rfl, Or.inl rfl, trivial⟩
                        exact v_Ln (lp384 (cn + 1) 0 ⟨by omega, by omega⟩) ⟨Or.inr rfl, Or.inr rfl, Or.inr rfl, Or.inr rfl, Or.inl rfl, Or.inl rfl, Or.inl rfl, trivial⟩
                      · have hI0 := hP a (by omega)
                        have h29 : (q_spillsN (q_slidesN (q_fallsN (q_pre M) (3 * cn)) 117) a) 229 = M 229 := (q_spillsN_off _ (by omega) (by omega) (by omega)).trans ((q_slidesN_off _ (by omega) (by omega)).trans (e28 229 (by omega) (by omega)))
                        have hI1 := IV_spills (c := a) (s := 0) hI0 hN (by omega) (by omega) (by rw [h29]; exact hz29)
                        refine v_iconst' X kc_0 dL_second_323 ?_
                        refine v_istore X (Nat.le_of_ble_eq_true rfl) rfl dL_second_324 ?_
                        refine v_iload X rfl dL_second_326 ?_
                        refine v_iconst' X kc_3 dL_second_328 ?_
                        refine v_icmp_ge_f (tgt := 376) X dL_second_329 (by decide) (by decide) ?_
                        refine v_aload_n X rfl dL_second_332 ?_
                        refine v_iload_n X rfl dL_second_333 ?_
                        refine v_iload X rfl dL_second_334 ?_
                        refine v_callS X ms_L_29 (c_L_height l γ w (q_spillsN (q_slidesN (q_fallsN (q_pre M) (3 * cn)) 117) a) (hI0.hb hN) a 0 (by omega) (by decide)) rfl ⟨Nat.le_of_ble_eq_true rfl, Nat.le_of_ble_eq_true rfl, Nat.le_of_ble_eq_true rfl, Nat.le_of_ble_eq_true rfl⟩ (Nat.le_of_ble_eq_true rfl) rfl dL_second_336 rfl (det_i ?_)
                        refine v_aload_n X rfl dL_second_339 ?_
                        refine v_bipush' X kb_58 dL_second_340 ?_
                        refine v_iald' X (v := ((q_spillsN (q_slidesN (q_fallsN (q_pre M) (3 * cn)) 117) a) (229))) (rd_W1 γ _ _) (58) rfl (by omega) (by decide) (w_at (i := 58) (j := 229) (by omega) rfl) dL_second_342 ?_
                        refine v_isub X dL_second_343 ?_
                        show V p l e _ s m args below meth c γ _ _ _ _ _ _ (.int (q_over (q_spillsN (q_slidesN (q_fallsN (q_pre M) (3 * cn)) 117) a) a 0) :: _)
                        refine v_istore X (Nat.le_of_ble_eq_true rfl) rfl dL_second_344 ?_
                        refine v_iload X rfl dL_second_346 ?_
                        refine v_if_le (tgt := 370) X dL_second_348 (by decide) (fun r0 => ?_) (fun r0 => ?_)
                        · refine v_eqh (congrArg (fun z => rdw γ (wset w 10 z)) (sp_t r0).symm) ?_
                          refine v_iinc' (v := nI 2) X rfl rfl (by decide) dL_second_370 ?_
                          refine v_goto (tgt := 326) X dL_second_373 (by decide) ?_
                          refine v_iload X rfl dL_second_326 ?_
                          refine v_iconst' X kc_3 dL_second_328 ?_
                          refine v_icmp_ge_f (tgt := 376) X dL_second_329 (by decide) (by decide) ?_
                          refine v_aload_n X rfl dL_second_332 ?_
                          refine v_iload_n X rfl dL_second_333 ?_
                          refine v_iload X rfl dL_second_334 ?_
                          refine v_callS X ms_L_29 (c_L_height l γ w (q_spills (q_spillsN (q_slidesN (q_fallsN (q_pre M) (3 * cn)) 117) a) a 0) (hI1.hb hN) a 2 (by omega) (by decide)) rfl ⟨Nat.le_of_ble_eq_true rfl, Nat.le_of_ble_eq_true rfl, Nat.le_of_ble_eq_true rfl, Nat.le_of_ble_eq_true rfl⟩ (Nat.le_of_ble_eq_true rfl) rfl dL_second_336 rfl (det_i ?_)
                          refine v_aload_n X rfl dL_second_339 ?_
                          refine v_bipush' X kb_58 dL_second_340 ?_
                          refine v_iald' X (v := ((q_spills (q_spillsN (q_slidesN (q_fallsN (q_pre M) (3 * cn)) 117) a) a 0) (229))) (rd_W1 γ _ _) (58) rfl (by omega) (by decide) (w_at (i := 58) (j := 229) (by omega) rfl) dL_second_342 ?_
                          refine v_isub X dL_second_343 ?_
                          show V p l e _ s m args below meth c γ _ _ _ _ _ _ (.int (q_over (q_spills (q_spillsN (q_slidesN (q_fallsN (q_pre M) (3 * cn)) 117) a) a 0) a 2) :: _)
                          refine v_istore X (Nat.le_of_ble_eq_true rfl) rfl dL_second_344 ?_
                          refine v_iload X rfl dL_second_346 ?_
                          refine v_if_le (tgt := 370) X dL_second_348 (by decide) (fun r2 => ?_) (fun r2 => ?_)
                          · refine v_eqh (congrArg (fun z => rdw γ (wset w 10 z)) (sp_t r2).symm) ?_
                            refine v_iinc' (v := nI 4) X rfl rfl (by decide) dL_second_370 ?_
                            refine v_goto (tgt := 326) X dL_second_373 (by decide) ?_
                            refine v_iload X rfl dL_second_326 ?_
                            refine v_iconst' X kc_3 dL_second_328 ?_
                            refine v_icmp_ge_t (tgt := 376) X dL_second_329 (by decide) (by decide) ?_
                            refine v_iinc' X rfl rfl (nI_inc _) dL_second_376 ?_
                            refine v_goto (tgt := 317) X dL_second_379 (by decide) ?_
                            exact v_Ln (ihne (a + 1) ⟨by omega, by omega⟩) ⟨Or.inr rfl, Or.inr rfl, Or.inr rfl, Or.inr rfl, Or.inl rfl, Or.inl rfl, Or.inl rfl, trivial⟩
                          · refine v_aload_n X rfl dL_second_351 ?_
                            refine v_iload_n X rfl dL_second_352 ?_
                            refine v_iload X rfl dL_second_353 ?_
                            refine v_iload X rfl dL_second_355 ?_
                            refine v_ineg X dL_second_357 ?_
                            refine v_callS X ms_L_26 (c_L_comes l γ w (q_spills (q_spillsN (q_slidesN (q_fallsN (q_pre M) (3 * cn)) 117) a) a 0) a 2 (by omega) (by decide) (-(q_over (q_spills (q_spillsN (q_slidesN (q_fallsN (q_pre M) (3 * cn)) 117) a) a 0) a 2))) rfl ⟨Nat.le_of_ble_eq_true rfl, Nat.le_of_ble_eq_true rfl, Nat.le_of_ble_eq_true rfl, Nat.le_of_ble_eq_true rfl⟩ (Nat.le_of_ble_eq_true rfl) rfl dL_second_358 rfl (det_v ?_)
                            refine v_aload_n X rfl dL_second_361 ?_
                            refine v_bipush' X kb_55 dL_second_362 ?_
                            refine v_dup2 X rfl rfl dL_second_364 ?_
                            refine v_iald' X (v := ((upd (q_spills (q_spillsN (q_slidesN (q_fallsN (q_pre M) (3 * cn)) 117) a) a 0) (3 * a + 2) ((q_spills (q_spillsN (q_slidesN (q_fallsN (q_pre M) (3 * cn)) 117) a) a 0) (3 * a + 2) + -(q_over (q_spills (q_spillsN (q_slidesN (q_fallsN (q_pre M) (3 * cn)) 117) a) a 0) a 2))) (226))) (rd_W1 γ _ _) (55) rfl (by omega) (by decide) (w_at (i := 55) (j := 226) (by omega) rfl) dL_second_365 ?_
                            refine v_iload X rfl dL_second_366 ?_
                            refine v_iadd X dL_second_368 ?_
                            refine v_iast X (rd_W1 γ _ _) (55) rfl (by omega) (by decide) dL_second_369 ?_
                            refine v_eqh (up_W1 (i := 55) (j := 226) γ _ _ (by omega) rfl _) ?_
                            rw [sp_f r2]
                            refine v_iinc' (v := nI 4) X rfl rfl (by decide) dL_second_370 ?_
                            refine v_goto (tgt := 326) X dL_second_373 (by decide) ?_
                            refine v_iload X rfl dL_second_326 ?_
                            refine v_iconst' X kc_3 dL_second_328 ?_
                            refine v_icmp_ge_t (tgt := 376) X dL_second_329 (by decide) (by decide) ?_
                            refine v_iinc' X rfl rfl (nI_inc _) dL_second_376 ?_
                            refine v_goto (tgt := 317) X dL_second_379 (by decide) ?_
                            exact v_Ln (ihne (a + 1) ⟨by omega, by omega⟩) ⟨Or.inr rfl, Or.inr rfl, Or.inr rfl, Or.inr rfl, Or.inl rfl, Or.inl rfl, Or.inl rfl, trivial⟩
                        · refine v_aload_n X rfl dL_second_351 ?_
                          refine v_iload_n X rfl dL_second_352 ?_
                          refine v_iload X rfl dL_second_353 ?_
                          refine v_iload X rfl dL_second_355 ?_
                          refine v_ineg X dL_second_357 ?_
                          refine v_callS X ms_L_26 (c_L_comes l γ w (q_spillsN (q_slidesN (q_fallsN (q_pre M) (3 * cn)) 117) a) a 0 (by omega) (by decide) (-(q_over (q_spillsN (q_slidesN (q_fallsN (q_pre M) (3 * cn)) 117) a) a 0))) rfl ⟨Nat.le_of_ble_eq_true rfl, Nat.le_of_ble_eq_true rfl, Nat.le_of_ble_eq_true rfl, Nat.le_of_ble_eq_true rfl⟩ (Nat.le_of_ble_eq_true rfl) rfl dL_second_358 rfl (det_v ?_)
                          refine v_aload_n X rfl dL_second_361 ?_
                          refine v_bipush' X kb_55 dL_second_362 ?_
                          refine v_dup2 X rfl rfl dL_second_364 ?_
                          refine v_iald' X (v := ((upd (q_spillsN (q_slidesN (q_fallsN (q_pre M) (3 * cn)) 117) a) (3 * a + 0) ((q_spillsN (q_slidesN (q_fallsN (q_pre M) (3 * cn)) 117) a) (3 * a + 0) + -(q_over (q_spillsN (q_slidesN (q_fallsN (q_pre M) (3 * cn)) 117) a) a 0))) (226))) (rd_W1 γ _ _) (55) rfl (by omega) (by decide) (w_at (i := 55) (j := 226) (by omega) rfl) dL_second_365 ?_
                          refine v_iload X rfl dL_second_366 ?_
                          refine v_iadd X dL_second_368 ?_
                          refine v_iast X (rd_W1 γ _ _) (55) rfl (by omega) (by decide) dL_second_369 ?_
                          refine v_eqh (up_W1 (i := 55) (j := 226) γ _ _ (by omega) rfl _) ?_
                          rw [sp_f r0]
                          refine v_iinc' (v := nI 2) X rfl rfl (by decide) dL_second_370 ?_
                          refine v_goto (tgt := 326) X dL_second_373 (by decide) ?_
                          refine v_iload X rfl dL_second_326 ?_
                          refine v_iconst' X kc_3 dL_second_328 ?_
                          refine v_icmp_ge_f (tgt := 376) X dL_second_329 (by decide) (by decide) ?_
                          refine v_aload_n X rfl dL_second_332 ?_
                          refine v_iload_n X rfl dL_second_333 ?_
                          refine v_iload X rfl dL_second_334 ?_
                          refine v_callS X ms_L_29 (c_L_height l γ w (q_spills (q_spillsN (q_slidesN (q_fallsN (q_pre M) (3 * cn)) 117) a) a 0) (hI1.hb hN) a 2 (by omega) (by decide)) rfl ⟨Nat.le_of_ble_eq_true rfl, Nat.le_of_ble_eq_true rfl, Nat.le_of_ble_eq_true rfl, Nat.le_of_ble_eq_true rfl⟩ (Nat.le_of_ble_eq_true rfl) rfl dL_second_336 rfl (det_i ?_)
                          refine v_aload_n X rfl dL_second_339 ?_
                          refine v_bipush' X kb_58 dL_second_340 ?_
                          refine v_iald' X (v := ((q_spills (q_spillsN (q_slidesN (q_fallsN (q_pre M) (3 * cn)) 117) a) a 0) (229))) (rd_W1 γ _ _) (58) rfl (by omega) (by decide) (w_at (i := 58) (j := 229) (by omega) rfl) dL_second_342 ?_
                          refine v_isub X dL_second_343 ?_
                          show V p l e _ s m args below meth c γ _ _ _ _ _ _ (.int (q_over (q_spills (q_spillsN (q_slidesN (q_fallsN (q_pre M) (3 * cn)) 117) a) a 0) a 2) :: _)
                          refine v_istore X (Nat.le_of_ble_eq_true rfl) rfl dL_second_344 ?_
                          refine v_iload X rfl dL_second_346 ?_
                          refine v_if_le (tgt := 370) X dL_second_348 (by decide) (fun r2 => ?_) (fun r2 => ?_)
                          · refine v_eqh (congrArg (fun z => rdw γ (wset w 10 z)) (sp_t r2).symm) ?_
                            refine v_iinc' (v := nI 4) X rfl rfl (by decide) dL_second_370 ?_
                            refine v_goto (tgt := 326) X dL_second_373 (by decide) ?_
                            refine v_iload X rfl dL_second_326 ?_
                            refine v_iconst' X kc_3 dL_second_328 ?_
                            refine v_icmp_ge_t (tgt := 376) X dL_second_329 (by decide) (by decide) ?_
                            refine v_iinc' X rfl rfl (nI_inc _) dL_second_376 ?_
                            refine v_goto (tgt := 317) X dL_second_379 (by decide) ?_
                            exact v_Ln (ihne (a + 1) ⟨by omega, by omega⟩) ⟨Or.inr rfl, Or.inr rfl, Or.inr rfl, Or.inr rfl, Or.inl rfl, Or.inl rfl, Or.inl rfl, trivial⟩
                          · refine v_aload_n X rfl dL_second_351 ?_
                            refine v_iload_n X rfl dL_second_352 ?_
                            refine v_iload X rfl dL_second_353 ?_
                            refine v_iload X rfl dL_second_355 ?_
                            refine v_ineg X dL_second_357 ?_
                            refine v_callS X ms_L_26 (c_L_comes l γ w (q_spills (q_spillsN (q_slidesN (q_fallsN (q_pre M) (3 * cn)) 117) a) a 0) a 2 (by omega) (by decide) (-(q_over (q_spills (q_spillsN (q_slidesN (q_fallsN (q_pre M) (3 * cn)) 117) a) a 0) a 2))) rfl ⟨Nat.le_of_ble_eq_true rfl, Nat.le_of_ble_eq_true rfl, Nat.le_of_ble_eq_true rfl, Nat.le_of_ble_eq_true rfl⟩ (Nat.le_of_ble_eq_true rfl) rfl dL_second_358 rfl (det_v ?_)
                            refine v_aload_n X rfl dL_second_361 ?_
                            refine v_bipush' X kb_55 dL_second_362 ?_
                            refine v_dup2 X rfl rfl dL_second_364 ?_
                            refine v_iald' X (v := ((upd (q_spills (q_spillsN (q_slidesN (q_fallsN (q_pre M) (3 * cn)) 117) a) a 0) (3 * a + 2) ((q_spills (q_spillsN (q_slidesN (q_fallsN (q_pre M) (3 * cn)) 117) a) a 0) (3 * a + 2) + -(q_over (q_spills (q_spillsN (q_slidesN (q_fallsN (q_pre M) (3 * cn)) 117) a) a 0) a 2))) (226))) (rd_W1 γ _ _) (55) rfl (by omega) (by decide) (w_at (i := 55) (j := 226) (by omega) rfl) dL_second_365 ?_
                            refine v_iload X rfl dL_second_366 ?_
                            refine v_iadd X dL_second_368 ?_
                            refine v_iast X (rd_W1 γ _ _) (55) rfl (by omega) (by decide) dL_second_369 ?_
                            refine v_eqh (up_W1 (i := 55) (j := 226) γ _ _ (by omega) rfl _) ?_
                            rw [sp_f r2]
                            refine v_iinc' (v := nI 4) X rfl rfl (by decide) dL_second_370 ?_
                            refine v_goto (tgt := 326) X dL_second_373 (by decide) ?_
                            refine v_iload X rfl dL_second_326 ?_
                            refine v_iconst' X kc_3 dL_second_328 ?_
                            refine v_icmp_ge_t (tgt := 376) X dL_second_329 (by decide) (by decide) ?_
                            refine v_iinc' X rfl rfl (nI_inc _) dL_second_376 ?_
                            refine v_goto (tgt := 317) X dL_second_379 (by decide) ?_
                            exact v_Ln (ihne (a + 1) ⟨by omega, by omega⟩) ⟨Or.inr rfl, Or.inr rfl, Or.inr rfl, Or.inr rfl, Or.inl rfl, Or.inl rfl, Or.inl rfl, trivial⟩
                  exact v_Ln (lp317 41 0 ⟨by omega, by omega⟩) ⟨Or.inr rfl, Or.inr rfl, Or.inr rfl, Or.inr rfl, Or.inl rfl, Or.inl rfl, Or.inl rfl, trivial⟩
                · refine v_iconst' X kc_0 dL_second_224 ?_
                  refine v_istore X (Nat.le_of_ble_eq_true rfl) rfl dL_second_225 ?_
                  have lp227 : ∀ (nd : Nat) (b : Nat), b ≤ 3 ∧ 3 + 1 ≤ b + nd → V p l e { frames := 2, cells := 0, slots := 0, locals := 50 } s m args below meth c γ Q0 (rdw γ (wset w 10 (q_slidesN (q_fallsN (q_pre M) (3 * cn)) (3 * a + b)))) 0 0 227 [some (.ref (γ.1 + 86)), some (.ref (γ.1 + 87)), some (.ref (γ.1 + 88)), some (.int (nI a)), some (.int (nI b)), none, none] [] := by
                    intro nd
                    induction nd with
                    | zero =>
                      intro b hbnd
                      exact absurd hbnd (by omega)
                    | succ nd ihnd =>
                      intro b hbnd
                      refine v_iload X rfl dL_second_227 ?_
                      refine v_iconst' X kc_3 dL_second_229 ?_
                      refine v_icmp_ge_n (tgt := 309) X dL_second_230 (by decide) (by omega) (by omega) (fun d2 => ?_) (fun d2 => ?_)
                      · have hbd : b = 3 := by omega
                        subst hbd
                        refine v_iinc' X rfl rfl (nI_inc _) dL_second_309 ?_
                        refine v_goto (tgt := 218) X dL_second_312 (by decide) ?_
                        exact v_Ln (ihnc (a + 1) ⟨by omega, by omega⟩) ⟨Or.inr rfl, Or.inr rfl, Or.inr rfl, Or.inr rfl, Or.inl rfl, Or.inl rfl, Or.inl rfl, trivial⟩
                      · have hHB : HB (q_slidesN (q_fallsN (q_pre M) (3 * cn)) (3 * a + b)) 1000 := (hS (3 * a + b) (by omega)).hb hN
                        have h28 : (q_slidesN (q_fallsN (q_pre M) (3 * cn)) (3 * a + b)) 228 = M 228 := q_slidesN_off _ (by omega) (by omega) |>.trans (e28 228 (by omega) (by omega))
                        refine v_aload_n X rfl dL_second_233 ?_
                        refine v_iload_n X rfl dL_second_234 ?_
                        refine v_iload X rfl dL_second_235 ?_
                        refine v_callS X ms_L_29 (c_L_height l γ w (q_slidesN (q_fallsN (q_pre M) (3 * cn)) (3 * a + b)) hHB a b (by omega) (by omega)) rfl ⟨Nat.le_of_ble_eq_true rfl, Nat.le_of_ble_eq_true rfl, Nat.le_of_ble_eq_true rfl, Nat.le_of_ble_eq_true rfl⟩ (Nat.le_of_ble_eq_true rfl) rfl dL_second_237 rfl (det_i ?_)
                        refine v_aload_n X rfl dL_second_240 ?_
                        refine v_iload_n X rfl dL_second_241 ?_
                        refine v_iconst' X kc_1 dL_second_242 ?_
                        refine v_iadd' X (nI_add _ _) dL_second_243 ?_
                        refine v_iload X rfl dL_second_244 ?_
                        refine v_callS X ms_L_29 (c_L_height l γ w (q_slidesN (q_fallsN (q_pre M) (3 * cn)) (3 * a + b)) hHB (a + 1) b (by omega) (by omega)) rfl ⟨Nat.le_of_ble_eq_true rfl, Nat.le_of_ble_eq_true rfl, Nat.le_of_ble_eq_true rfl, Nat.le_of_ble_eq_true rfl⟩ (Nat.le_of_ble_eq_true rfl) rfl dL_second_246 rfl (det_i ?_)
                        rw [show 3 * (a + 1) + b = 3 * a + 3 + b by omega]
                        refine v_isub X dL_second_249 ?_
                        show V p l e _ s m args below meth c γ _ _ _ _ _ _ (.int (q_by (q_slidesN (q_fallsN (q_pre M) (3 * cn)) (3 * a + b)) a b) :: _)
                        refine v_istore X (Nat.le_of_ble_eq_true rfl) rfl dL_second_250 ?_
                        refine v_iload X rfl dL_second_252 ?_
                        refine v_aload_n X rfl dL_second_254 ?_
                        refine v_bipush' X kb_57 dL_second_255 ?_
                        refine v_iald' X (v := ((q_slidesN (q_fallsN (q_pre M) (3 * cn)) (3 * a + b)) (228))) (rd_W1 γ _ _) (57) rfl (by omega) (by decide) (w_at (i := 57) (j := 228) (by omega) rfl) dL_second_257 ?_
                        have jn280 : ∀ (u : Int32), u = q_unit (q_by (q_slidesN (q_fallsN (q_pre M) (3 * cn)) (3 * a + b)) a b) ((q_slidesN (q_fallsN (q_pre M) (3 * cn)) (3 * a + b)) 228) → V p l e { frames := 2, cells := 0, slots := 0, locals := 50 } s m args below meth c γ Q0 (rdw γ (wset w 10 (q_slidesN (q_fallsN (q_pre M) (3 * cn)) (3 * a + b)))) 0 0 280 [some (.ref (γ.1 + 86)), some (.ref (γ.1 + 87)), some (.ref (γ.1 + 88)), some (.int (nI a)), some (.int (nI b)), some (.int (q_by (q_slidesN (q_fallsN (q_pre M) (3 * cn)) (3 * a + b)) a b)), none] [.int u] := by
                          intro u hu
                          refine v_istore X (Nat.le_of_ble_eq_true rfl) rfl dL_second_280 ?_
                          refine v_aload_n X rfl dL_second_282 ?_
                          refine v_iload_n X rfl dL_second_283 ?_
                          refine v_iload X rfl dL_second_284 ?_
                          refine v_iload X rfl dL_second_286 ?_
                          refine v_ineg X dL_second_288 ?_
                          refine v_callS X ms_L_26 (c_L_comes l γ w (q_slidesN (q_fallsN (q_pre M) (3 * cn)) (3 * a + b)) a b (by omega) (by omega) (-u)) rfl ⟨Nat.le_of_ble_eq_true rfl, Nat.le_of_ble_eq_true rfl, Nat.le_of_ble_eq_true rfl, Nat.le_of_ble_eq_true rfl⟩ (Nat.le_of_ble_eq_true rfl) rfl dL_second_289 rfl (det_v ?_)
                          refine v_aload_n X rfl dL_second_292 ?_
                          refine v_iload_n X rfl dL_second_293 ?_
                          refine v_iconst' X kc_1 dL_second_294 ?_
                          refine v_iadd' X (nI_add _ _) dL_second_295 ?_
                          refine v_iload X rfl dL_second_296 ?_
                          refine v_iload X rfl dL_second_298 ?_
                          refine v_callS X ms_L_26 (c_L_comes l γ w (upd (q_slidesN (q_fallsN (q_pre M) (3 * cn)) (3 * a + b)) (3 * a + b) ((q_slidesN (q_fallsN (q_pre M) (3 * cn)) (3 * a + b)) (3 * a + b) + -u)) (a + 1) b (by omega) (by omega) u) rfl ⟨Nat.le_of_ble_eq_true rfl, Nat.le_of_ble_eq_true rfl, Nat.le_of_ble_eq_true rfl, Nat.le_of_ble_eq_true rfl⟩ (Nat.le_of_ble_eq_true rfl) rfl dL_second_300 rfl (det_v ?_)
                          rw [sl_eq _ a b u hu, q_slidesN_S _ (by omega)]
                          refine v_iinc' X rfl rfl (nI_inc _) dL_second_303 ?_
                          refine v_goto (tgt := 227) X dL_second_306 (by decide) ?_
                          exact v_Ln (ihnd (b + 1) ⟨by omega, by omega⟩) ⟨Or.inr rfl, Or.inr rfl, Or.inr rfl, Or.inr rfl, Or.inr rfl, Or.inl rfl, Or.inl rfl, trivial⟩
                        refine v_icmp_le (tgt := 265) X dL_second_258 (by decide) (fun r7 => ?_) (fun r7 => ?_)
                        · refine v_iload X rfl dL_second_265 ?_
                          refine v_aload_n X rfl dL_second_267 ?_
                          refine v_bipush' X kb_57 dL_second_268 ?_
                          refine v_iald' X (v := ((q_slidesN (q_fallsN (q_pre M) (3 * cn)) (3 * a + b)) (228))) (rd_W1 γ _ _) (57) rfl (by omega) (by decide) (w_at (i := 57) (j := 228) (by omega) rfl) dL_second_270 ?_
                          refine v_ineg X dL_second_271 ?_
                          refine v_icmp_ge (tgt := 279) X dL_second_272 (by decide) (fun r8 => ?_) (fun r8 => ?_)
                          · refine v_iconst' X kc_0 dL_second_279 ?_
                            exact v_Ln (jn280 _ (by unfold q_unit; first | rw [if_neg r7] | rw [if_pos r7, if_pos ((by_neg hHB (by omega) (by omega) (by rw [h28]; exact hz28)).mp r8)] | rw [if_pos r7, if_neg (fun z => r8 ((by_neg hHB (by omega) (by omega) (by rw [h28]; exact hz28)).mpr z))])) ⟨Or.inr rfl, Or.inr rfl, Or.inr rfl, Or.inr rfl, Or.inr rfl, Or.inr rfl, Or.inl rfl, trivial⟩
                          · refine v_iconst' X kc_m1 dL_second_275 ?_
                            refine v_goto (tgt := 280) X dL_second_276 (by decide) ?_
                            exact v_Ln (jn280 _ (by unfold q_unit; first | rw [if_neg r7] | rw [if_pos r7, if_pos ((by_neg hHB (by omega) (by omega) (by rw [h28]; exact hz28)).mp r8)] | rw [if_pos r7, if_neg (fun z => r8 ((by_neg hHB (by omega) (by omega) (by rw [h28]; exact hz28)).mpr z))])) ⟨Or.inr rfl, Or.inr rfl, Or.inr rfl, Or.inr rfl, Or.inr rfl, Or.inr rfl, Or.inl rfl, trivial⟩
                        · refine v_iconst' X kc_1 dL_second_261 ?_
                          refine v_goto (tgt := 280) X dL_second_262 (by decide) ?_
                          exact v_Ln (jn280 _ (by unfold q_unit; first | rw [if_neg r7] | rw [if_pos r7, if_pos ((by_neg hHB (by omega) (by omega) (by rw [h28]; exact hz28)).mp r8)] | rw [if_pos r7, if_neg (fun z => r8 ((by_neg hHB (by omega) (by omega) (by rw [h28]; exact hz28)).mpr z))])) ⟨Or.inr rfl, Or.inr rfl, Or.inr rfl, Or.inr rfl, Or.inr rfl, Or.inr rfl, Or.inl rfl, trivial⟩
                  exact v_Ln (lp227 4 0 ⟨by omega, by omega⟩) ⟨Or.inr rfl, Or.inr rfl, Or.inr rfl, Or.inr rfl, Or.inr rfl, Or.inl rfl, Or.inl rfl, trivial⟩
            exact v_Ln (lp218 40 0 ⟨by omega, by omega⟩) ⟨Or.inr rfl, Or.inr rfl, Or.inr rfl, Or.inr rfl, Or.inl rfl, Or.inl rfl, Or.inl rfl, trivial⟩
          · refine v_aload_n X rfl dL_second_85 ?_
            refine v_bipush' X kb_49 dL_second_86 ?_
            refine v_iald' X (v := (q_pre M 219)) (rd_W1 γ _ _) (49) rfl (by omega) (by decide) ((w_at (i := 49) (j := 219) (by omega) rfl).trans (q_fallsN_off _ (by omega) (by omega) (by omega))) dL_second_88 ?_
            refine v_iconst' X kc_4 dL_second_89 ?_
            refine v_iload_n X rfl dL_second_90 ?_
            refine v_imul' X (pk_mul _ _) dL_second_91 ?_
            refine v_isub X dL_second_92 ?_
            refine v_istore X (Nat.le_of_ble_eq_true rfl) rfl dL_second_93 ?_
            refine v_iconst' X kc_0 dL_second_95 ?_
            refine v_istore X (Nat.le_of_ble_eq_true rfl) rfl dL_second_96 ?_
            have lp98 : ∀ (nb : Nat) (b : Nat), b ≤ 3 ∧ 3 + 1 ≤ b + nb → V p l e { frames := 2, cells := 0, slots := 0, locals := 50 } s m args below meth c γ Q0 (rdw γ (wset w 10 (q_fallsN (q_pre M) (3 * a + b)))) 0 0 98 [some (.ref (γ.1 + 86)), some (.ref (γ.1 + 87)), some (.ref (γ.1 + 88)), some (.int (nI a)), some (.int (q_pre M 219 - nI (4 * a))), some (.int (nI b)), none] [] := by
              intro nb
              induction nb with
              | zero =>
                intro b hbnb
                exact absurd hbnb (by omega)
              | succ nb ihnb =>
                intro b hbnb
                refine v_iload X rfl dL_second_98 ?_
                refine v_iconst' X kc_3 dL_second_100 ?_
                refine v_icmp_ge_n (tgt := 210) X dL_second_101 (by decide) (by omega) (by omega) (fun d2 => ?_) (fun d2 => ?_)
                · have hbd : b = 3 := by omega
                  subst hbd
                  refine v_iinc' X rfl rfl (nI_inc _) dL_second_210 ?_
                  refine v_goto (tgt := 77) X dL_second_213 (by decide) ?_
                  exact v_Ln (ihna (a + 1) ⟨by omega, by omega⟩) ⟨Or.inr rfl, Or.inr rfl, Or.inr rfl, Or.inr rfl, Or.inl rfl, Or.inl rfl, Or.inl rfl, trivial⟩
                · have hC : (q_fallsN (q_pre M) (3 * a + b)) 219 - nI (4 * a) = (q_pre M 219 - nI (4 * a)) := by rw [q_fallsN_off _ (by omega) (by omega) (by omega)]
                  refine v_aload_n X rfl dL_second_104 ?_
                  refine v_bipush' X kb_8 dL_second_105 ?_
                  refine v_iload_n X rfl dL_second_107 ?_
                  refine v_imul' X (pk_mul _ _) dL_second_108 ?_
                  refine v_iald' X (v := ((q_fallsN (q_pre M) (3 * a + b)) (120 + 8 * a + 0))) (rd_W1 γ _ _) ((8 * a)) rfl (by omega) (by decide) (w_at (i := (8 * a)) (j := 120 + 8 * a + 0) (by omega) (fw_lo (by omega) (by omega))) dL_second_109 ?_
                  refine v_aload_n X rfl dL_second_110 ?_
                  refine v_bipush' X kb_8 dL_second_111 ?_
                  refine v_iload_n X rfl dL_second_113 ?_
                  refine v_imul' X (pk_mul _ _) dL_second_114 ?_
                  refine v_iconst' X kc_2 dL_second_115 ?_
                  refine v_iadd' X (nI_add _ _) dL_second_116 ?_
                  refine v_iload X rfl dL_second_117 ?_
                  refine v_iadd' X (nI_add _ _) dL_second_119 ?_
                  refine v_iald' X (v := ((q_fallsN (q_pre M) (3 * a + b)) (120 + 8 * a + (2 + b)))) (rd_W1 γ _ _) ((((8 * a) + 2) + b)) rfl (by omega) (by decide) (w_at (i := (((8 * a) + 2) + b)) (j := 120 + 8 * a + (2 + b)) (by omega) (fw_lo (by omega) (by omega))) dL_second_120 ?_
                  have jn144 : ∀ (u : Int32), u = q_u (q_fallsN (q_pre M) (3 * a + b)) a b → V p l e { frames := 2, cells := 0, slots := 0, locals := 50 } s m args below meth c γ Q0 (rdw γ (wset w 10 (q_fallsN (q_pre M) (3 * a + b)))) 0 0 144 [some (.ref (γ.1 + 86)), some (.ref (γ.1 + 87)), some (.ref (γ.1 + 88)), some (.int (nI a)), some (.int (q_pre M 219 - nI (4 * a))), some (.int (nI b)), none] [.int u] := by
                    intro u hu
                    subst hu
                    refine v_istore X (Nat.le_of_ble_eq_true rfl) rfl dL_second_144 ?_
                    refine v_aload_n X rfl dL_second_146 ?_
                    refine v_bipush' X kb_8 dL_second_147 ?_
                    refine v_iload_n X rfl dL_second_149 ?_
                    refine v_imul' X (pk_mul _ _) dL_second_150 ?_
                    refine v_dup2 X rfl rfl dL_second_151 ?_
                    refine v_iald' X (v := ((q_fallsN (q_pre M) (3 * a + b)) (120 + 8 * a + 0))) (rd_W1 γ _ _) ((8 * a)) rfl (by omega) (by decide) (w_at (i := (8 * a)) (j := 120 + 8 * a + 0) (by omega) (fw_lo (by omega) (by omega))) dL_second_152 ?_
                    refine v_iload X rfl dL_second_153 ?_
                    refine v_isub X dL_second_155 ?_
                    refine v_iast X (rd_W1 γ _ _) ((8 * a)) rfl (by omega) (by decide) dL_second_156 ?_
                    refine v_eqh (up_W1 (i := (8 * a)) (j := 120 + 8 * a + 0) γ _ _ (by omega) (fw_lo (by omega) (by omega)) _) ?_
                    show V p l e _ s m args below meth c γ _ (rdw γ (wset w 10 (q_f1 (q_fallsN (q_pre M) (3 * a + b)) a b))) _ _ _ _ _
                    refine v_aload_n X rfl dL_second_157 ?_
                    refine v_bipush' X kb_8 dL_second_158 ?_
                    refine v_iload_n X rfl dL_second_160 ?_
                    refine v_imul' X (pk_mul _ _) dL_second_161 ?_
                    refine v_iconst' X kc_1 dL_second_162 ?_
                    refine v_iadd' X (nI_add _ _) dL_second_163 ?_
                    refine v_dup2 X rfl rfl dL_second_164 ?_
                    refine v_iald' X (v := ((q_f1 (q_fallsN (q_pre M) (3 * a + b)) a b) (120 + 8 * a + 1))) (rd_W1 γ _ _) (((8 * a) + 1)) rfl (by omega) (by decide) (w_at (i := ((8 * a) + 1)) (j := 120 + 8 * a + 1) (by omega) (fw_lo (by omega) (by omega))) dL_second_165 ?_
                    refine v_iload X rfl dL_second_166 ?_
                    refine v_iadd X dL_second_168 ?_
                    refine v_iast X (rd_W1 γ _ _) (((8 * a) + 1)) rfl (by omega) (by decide) dL_second_169 ?_
                    refine v_eqh (up_W1 (i := ((8 * a) + 1)) (j := 120 + 8 * a + 1) γ _ _ (by omega) (fw_lo (by omega) (by omega)) _) ?_
                    show V p l e _ s m args below meth c γ _ (rdw γ (wset w 10 (q_f2 (q_fallsN (q_pre M) (3 * a + b)) a b))) _ _ _ _ _
                    refine v_iload X rfl dL_second_170 ?_
                    refine v_if_lt (tgt := 182) X dL_second_172 (by decide) (fun r5 => ?_) (fun r5 => ?_)
                    · refine v_aload_n X rfl dL_second_182 ?_
                      refine v_bipush' X kb_55 dL_second_183 ?_
                      refine v_dup2 X rfl rfl dL_second_185 ?_
                      refine v_iald' X (v := ((q_f2 (q_fallsN (q_pre M) (3 * a + b)) a b) (226))) (rd_W1 γ _ _) (55) rfl (by omega) (by decide) (w_at (i := 55) (j := 226) (by omega) rfl) dL_second_186 ?_
                      refine v_iload X rfl dL_second_187 ?_
                      refine v_iadd X dL_second_189 ?_
                      refine v_iast X (rd_W1 γ _ _) (55) rfl (by omega) (by decide) dL_second_190 ?_
                      refine v_eqh (up_W1 (i := 55) (j := 226) γ _ _ (by omega) rfl _) ?_
                      rw [fal_o (by omega) hC (by first | (intro z; exact z.1 (by rw [nI_0]; exact r5)) | (intro z; exact z.2 (Int32.not_le.mp r6))), q_fallsN_S _ (by omega)]
                      refine v_goto (tgt := 204) X dL_second_191 (by decide) ?_
                      refine v_iinc' X rfl rfl (nI_inc _) dL_second_204 ?_
                      refine v_goto (tgt := 98) X dL_second_207 (by decide) ?_
                      exact v_Ln (ihnb (b + 1) ⟨by omega, by omega⟩) ⟨Or.inr rfl, Or.inr rfl, Or.inr rfl, Or.inr rfl, Or.inr rfl, Or.inr rfl, Or.inl rfl, trivial⟩
                    · refine v_iload X rfl dL_second_175 ?_
                      refine v_bipush' X kb_39 dL_second_177 ?_
                      refine v_icmp_le (tgt := 194) X dL_second_179 (by decide) (fun r6 => ?_) (fun r6 => ?_)
                      · obtain ⟨j, hj, e4⟩ := in_nat (x := (q_pre M 219 - nI (4 * a))) (N := 39) (by decide) ⟨by rw [nI_0]; exact r5, Int32.not_lt.mpr r6⟩
                        refine v_aload_n X rfl dL_second_194 ?_
                        refine v_iload X rfl dL_second_195 ?_
                        refine v_iload X rfl dL_second_197 ?_
                        refine v_iload X rfl dL_second_199 ?_
                        rw [e4]
                        refine v_callS X ms_L_26 (c_L_comes l γ w (q_f2 (q_fallsN (q_pre M) (3 * a + b)) a b) j b (by omega) (by omega) (q_u (q_fallsN (q_pre M) (3 * a + b)) a b)) rfl ⟨Nat.le_of_ble_eq_true rfl, Nat.le_of_ble_eq_true rfl, Nat.le_of_ble_eq_true rfl, Nat.le_of_ble_eq_true rfl⟩ (Nat.le_of_ble_eq_true rfl) rfl dL_second_201 rfl (det_v ?_)
                        rw [fal_i (by omega) hC hj e4, q_fallsN_S _ (by omega), ← e4]
                        refine v_iinc' X rfl rfl (nI_inc _) dL_second_204 ?_
                        refine v_goto (tgt := 98) X dL_second_207 (by decide) ?_
                        exact v_Ln (ihnb (b + 1) ⟨by omega, by omega⟩) ⟨Or.inr rfl, Or.inr rfl, Or.inr rfl, Or.inr rfl, Or.inr rfl, Or.inr rfl, Or.inl rfl, trivial⟩
                      · refine v_aload_n X rfl dL_second_182 ?_
                        refine v_bipush' X kb_55 dL_second_183 ?_
                        refine v_dup2 X rfl rfl dL_second_185 ?_
                        refine v_iald' X (v := ((q_f2 (q_fallsN (q_pre M) (3 * a + b)) a b) (226))) (rd_W1 γ _ _) (55) rfl (by omega) (by decide) (w_at (i := 55) (j := 226) (by omega) rfl) dL_second_186 ?_
                        refine v_iload X rfl dL_second_187 ?_
                        refine v_iadd X dL_second_189 ?_
                        refine v_iast X (rd_W1 γ _ _) (55) rfl (by omega) (by decide) dL_second_190 ?_
                        refine v_eqh (up_W1 (i := 55) (j := 226) γ _ _ (by omega) rfl _) ?_
                        rw [fal_o (by omega) hC (by first | (intro z; exact z.1 (by rw [nI_0]; exact r5)) | (intro z; exact z.2 (Int32.not_le.mp r6))), q_fallsN_S _ (by omega)]
                        refine v_goto (tgt := 204) X dL_second_191 (by decide) ?_
                        refine v_iinc' X rfl rfl (nI_inc _) dL_second_204 ?_
                        refine v_goto (tgt := 98) X dL_second_207 (by decide) ?_
                        exact v_Ln (ihnb (b + 1) ⟨by omega, by omega⟩) ⟨Or.inr rfl, Or.inr rfl, Or.inr rfl, Or.inr rfl, Or.inr rfl, Or.inr rfl, Or.inl rfl, trivial⟩
                  refine v_icmp_ge (tgt := 133) X dL_second_121 (by decide) (fun r4 => ?_) (fun r4 => ?_)
                  · refine v_aload_n X rfl dL_second_133 ?_
                    refine v_bipush' X kb_8 dL_second_134 ?_
                    refine v_iload_n X rfl dL_second_136 ?_
                    refine v_imul' X (pk_mul _ _) dL_second_137 ?_
                    refine v_iconst' X kc_2 dL_second_138 ?_
                    refine v_iadd' X (nI_add _ _) dL_second_139 ?_
                    refine v_iload X rfl dL_second_140 ?_
                    refine v_iadd' X (nI_add _ _) dL_second_142 ?_
                    refine v_iald' X (v := ((q_fallsN (q_pre M) (3 * a + b)) (120 + 8 * a + (2 + b)))) (rd_W1 γ _ _) ((((8 * a) + 2) + b)) rfl (by omega) (by decide) (w_at (i := (((8 * a) + 2) + b)) (j := 120 + 8 * a + (2 + b)) (by omega) (fw_lo (by omega) (by omega))) dL_second_143 ?_
                    exact v_Ln (jn144 _ (by first | exact u_t r4 | exact u_f r4)) ⟨Or.inr rfl, Or.inr rfl, Or.inr rfl, Or.inr rfl, Or.inr rfl, Or.inr rfl, Or.inl rfl, trivial⟩
                  · refine v_aload_n X rfl dL_second_124 ?_
                    refine v_bipush' X kb_8 dL_second_125 ?_
                    refine v_iload_n X rfl dL_second_127 ?_
                    refine v_imul' X (pk_mul _ _) dL_second_128 ?_
                    refine v_iald' X (v := ((q_fallsN (q_pre M) (3 * a + b)) (120 + 8 * a + 0))) (rd_W1 γ _ _) ((8 * a)) rfl (by omega) (by decide) (w_at (i := (8 * a)) (j := 120 + 8 * a + 0) (by omega) (fw_lo (by omega) (by omega))) dL_second_129 ?_
                    refine v_goto (tgt := 144) X dL_second_130 (by decide) ?_
                    exact v_Ln (jn144 _ (by first | exact u_t r4 | exact u_f r4)) ⟨Or.inr rfl, Or.inr rfl, Or.inr rfl, Or.inr rfl, Or.inr rfl, Or.inr rfl, Or.inl rfl, trivial⟩
            exact v_Ln (lp98 4 0 ⟨by omega, by omega⟩) ⟨Or.inr rfl, Or.inr rfl, Or.inr rfl, Or.inr rfl, Or.inr rfl, Or.inr rfl, Or.inl rfl, trivial⟩
      exact v_Ln (lp77 (cn + 1) 0 ⟨by omega, by omega⟩) ⟨Or.inr rfl, Or.inr rfl, Or.inr rfl, Or.inr rfl, Or.inl rfl, Or.inl rfl, Or.inl rfl, trivial⟩
    refine v_icmp_le (tgt := 60) X dL_second_52 (by decide) (fun r3 => ?_) (fun r3 => ?_)
    · refine v_aload_n X rfl dL_second_60 ?_
      refine v_bipush' X kb_49 dL_second_61 ?_
      refine v_iald' X (v := ((q_speed M) (219))) (rd_W1 γ _ _) (49) rfl (by omega) (by decide) (w_at (i := 49) (j := 219) (by omega) rfl) dL_second_63 ?_
      refine v_aload_n X rfl dL_second_64 ?_
      refine v_bipush' X kb_50 dL_second_65 ?_
      refine v_iald' X (v := ((q_speed M) (220))) (rd_W1 γ _ _) (50) rfl (by omega) (by decide) (w_at (i := 50) (j := 220) (by omega) rfl) dL_second_67 ?_
      refine v_iadd X dL_second_68 ?_
      exact v_Ln (jn69 _ (by first | rw [if_neg (Int32.not_lt.mpr r3)] | rw [if_pos (Int32.not_le.mp r3)])) ⟨Or.inr rfl, Or.inr rfl, Or.inr rfl, Or.inl rfl, Or.inl rfl, Or.inl rfl, Or.inl rfl, trivial⟩
    · refine v_bipush' X kb_99 dL_second_55 ?_
      refine v_goto (tgt := 69) X dL_second_57 (by decide) ?_
      exact v_Ln (jn69 _ (by first | rw [if_neg (Int32.not_lt.mpr r3)] | rw [if_pos (Int32.not_le.mp r3)])) ⟨Or.inr rfl, Or.inr rfl, Or.inr rfl, Or.inl rfl, Or.inl rfl, Or.inl rfl, Or.inl rfl, trivial⟩
  refine v_icmp_ne (tgt := 20) X dL_second_13 (by decide) (fun r1 => ?_) (fun r1 => ?_)
  · refine v_aload_n X rfl dL_second_20 ?_
    refine v_bipush' X kb_51 dL_second_21 ?_
    refine v_iald' X (v := (M (221))) (rd_W1 γ _ _) (51) rfl (by omega) (by decide) (w_at (i := 51) (j := 221) (by omega) rfl) dL_second_23 ?_
    refine v_aload_n X rfl dL_second_24 ?_
    refine v_bipush' X kb_50 dL_second_25 ?_
    refine v_iald' X (v := (M (220))) (rd_W1 γ _ _) (50) rfl (by omega) (by decide) (w_at (i := 50) (j := 220) (by omega) rfl) dL_second_27 ?_
    refine v_icmp_le (tgt := 35) X dL_second_28 (by decide) (fun r2 => ?_) (fun r2 => ?_)
    · refine v_iconst' X kc_m1 dL_second_35 ?_
      exact v_Ln (jn36 _ (by first | rw [r1, if_pos (Int32.le_refl _), if_pos (Int32.le_refl _)] | rw [if_neg (Int32.not_le.mpr (Int32.not_le.mp r2))] | (rw [if_pos r2, if_neg (fun z => r1 (i_eq.mpr (by rw [i_le] at z r2; omega)))]))) ⟨Or.inr rfl, Or.inr rfl, Or.inr rfl, Or.inl rfl, Or.inl rfl, Or.inl rfl, Or.inl rfl, trivial⟩
    · refine v_iconst' X kc_1 dL_second_31 ?_
      refine v_goto (tgt := 36) X dL_second_32 (by decide) ?_
      exact v_Ln (jn36 _ (by first | rw [r1, if_pos (Int32.le_refl _), if_pos (Int32.le_refl _)] | rw [if_neg (Int32.not_le.mpr (Int32.not_le.mp r2))] | (rw [if_pos r2, if_neg (fun z => r1 (i_eq.mpr (by rw [i_le] at z r2; omega)))]))) ⟨Or.inr rfl, Or.inr rfl, Or.inr rfl, Or.inl rfl, Or.inl rfl, Or.inl rfl, Or.inl rfl, trivial⟩
  · refine v_iconst' X kc_0 dL_second_16 ?_
    refine v_goto (tgt := 36) X dL_second_17 (by decide) ?_
    exact v_Ln (jn36 _ (by first | rw [r1, if_pos (Int32.le_refl _), if_pos (Int32.le_refl _)] | rw [if_neg (Int32.not_le.mpr (Int32.not_le.mp r2))] | (rw [if_pos r2, if_neg (fun z => r1 (i_eq.mpr (by rw [i_le] at z r2; omega)))]))) ⟨Or.inr rfl, Or.inr rfl, Or.inr rfl, Or.inl rfl, Or.inl rfl, Or.inl rfl, Or.inl rfl, trivial⟩
