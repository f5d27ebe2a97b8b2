/-! the digest -/
theorem door_e {M : Nat → Int32} {cn a d e : Nat} (he : e < 2) : s_door M cn (nI a) (nI d) (nI e) = s_door M cn (nI a) (nI ((2 * d + e) / 2)) (nI ((2 * d + e) % 2)) := by
  rw [show (2 * d + e) / 2 = d by omega, show (2 * d + e) % 2 = e by omega]
theorem prof_e {M : Nat → Int32} {s w : Nat} (hw : w < 6) : s_prof M (nI s) (nI w) = s_prof M (nI ((6 * s + w) / 6)) (nI ((6 * s + w) % 6)) := by
  rw [show (6 * s + w) / 6 = s by omega, show (6 * s + w) % 6 = w by omega]
theorem height_e {M : Nat → Int32} {a b : Nat} (ha : a < 40) (hb : b < 3) : s_height M (nI a) (nI b) = M (3 * a + b) := by
  unfold s_height
  rw [if_pos (nI_in0 (by omega) (by decide)), if_pos (nI_in0 (by omega) (by decide)), nI_clamp (by omega), nI_clamp (by omega)]
theorem ord_e {M : Nat → Int32} {q i w : Nat} (h10 : q ≤ 10) (hi : i < q) (hw : w < 5) : s_ordered M q (nI i) (nI w) = M (168 + (5 * i + w)) := by
  unfold s_ordered
  rw [if_neg (nI_pos (by omega)), if_pos (nI_in0 (by omega) (by decide)), if_neg (fun z => by have := (nI_leI (by omega) (by omega)).mp z; omega), nI_clamp (by omega), nI_clamp (by omega), Nat.add_assoc]
theorem fore_e {M : Nat → Int32} {cn j : Nat} (hj : j < 7) : s_partN (s_secs M 20) cn j = s_fore M cn (nI 20) (nI j) := by
  unfold s_fore
  rw [if_pos (nI_in1 (by decide) (by decide) (by decide)), if_pos (nI_in0 (by omega) (by decide)), nI_clamp (by decide), nI_clamp (by omega)]
theorem CI.self {γ : Gm} {W : Wd} {c : Nat} {M P T : Nat → Int32} {u t cn q tm : Nat} (h : CI γ W c M P T u t cn q tm) : CI γ (wset W 0 M) c M P T u t cn q tm := by
  have e : wset W 0 M = W := by rw [← h.1, wset_self]
  rw [e]; exact h
set_option maxHeartbeats 4000000 in
set_option maxRecDepth 100000 in
theorem c_X6_mixed (l : Launch) (γ : Gm) (h : HP) (g0 : Int64) (x : Int32) : Cr l γ yX6_mixed cX6_mixed 3 (some .long) 0 0 0 0 [.long g0, .int x] (h) (Det (some (.long (s_mix g0 x))) h) := by
  refine Cr_of [some (.long g0), none, some (.int x)] (by decide +kernel) (Nat.le_of_ble_eq_true rfl) rfl ?_
  intro p e s m args below meth c X
  refine v_q0 (fun Q0 hQ0 => ?_)
  refine v_ldc2 X kl_X6_277 dX6_mixed_0 ?_
  refine v_lload_n X rfl dX6_mixed_3 ?_
  refine v_lmul X dX6_mixed_4 ?_
  refine v_iload_n X rfl dX6_mixed_5 ?_
  refine v_i2l X dX6_mixed_6 ?_
  refine v_ladd X dX6_mixed_7 ?_
  subst hQ0
  exact v_lret X rfl (Nat.le_of_ble_eq_true rfl) (Nat.le_of_ble_eq_true rfl) dX6_mixed_8 ⟨rfl, rfl⟩
set_option maxHeartbeats 4000000 in
set_option maxRecDepth 100000 in
theorem c_X6_mixedWithTrain (l : Launch) (γ : Gm) (W : Wd) (nc : Nat) (M P T : Nat → Int32) (u t cn q tm : Nat) (hI : CI γ W nc M P T u t cn q tm) (g0 : Int64) : Cr l γ yX6_mixedWithTrain cX6_mixedWithTrain 8 (some .long) 4 89 0 0 [.ref γ.1, .long g0] (rdw γ W) (Det (some (.long (s_mixWs M cn g0 cn))) (rdw γ W)) := by
  refine Cr_of [some (.ref γ.1), some (.long g0), none, none, none, none, none, none] (by decide +kernel) (Nat.le_of_ble_eq_true rfl) rfl ?_
  intro p e s m args below meth c X
  refine v_q0 (fun Q0 hQ0 => ?_)
  have hI0 := hI
  obtain ⟨hM, hV, hF, hL1, hL8, hH, hX, hN⟩ := hI0
  obtain ⟨hVS, hT, hT9⟩ := hV
  obtain ⟨⟨hc, h1, h6⟩, hOQ, hTP, hHB, hSR⟩ := hVS
  have h10 := hOQ.2.1
  have hB9 : 3600 * (tm : Int) < 1000000000 := by omega
  refine v_eqh (CI_w hI) ?_
  have hI2 := hI.self
  refine v_lload_n X rfl dX6_mixedWithTrain_0 ?_
  refine v_lstore_n X (Nat.le_of_ble_eq_true rfl) rfl dX6_mixedWithTrain_1 ?_
  refine v_iconst' X kc_0 dX6_mixedWithTrain_2 ?_
  refine v_istore X (Nat.le_of_ble_eq_true rfl) rfl dX6_mixedWithTrain_3 ?_
  have lp5 : ∀ (n1 : Nat) (a : Nat), a ≤ cn ∧ cn + 1 ≤ a + n1 → V p l e { frames := 4, cells := 0, slots := 0, locals := 89 } s m args below meth c γ Q0 (rdw γ (wset W 0 M)) 0 0 5 [some (.ref γ.1), some (.long g0), none, some (.long (s_mixWs M cn g0 a)), none, some (.int (nI a)), none, none] [] := by
    intro n1
    induction n1 with
    | zero =>
      intro a hbn1
      exact absurd hbn1 (by omega)
    | succ n1 ihn1 =>
      intro a hbn1
      refine v_iload X rfl dX6_mixedWithTrain_5 ?_
      refine v_aload_n X rfl dX6_mixedWithTrain_7 ?_
      refine v_getf X fd_X6_19 (rd_BT γ _) rfl dX6_mixedWithTrain_8 ?_
      refine v_getf X fd_X6_65 (rd_State γ _ _ (by decide)) rfl dX6_mixedWithTrain_11 ?_
      refine v_getf X (v := .int (M 218)) fd_X6_223 (rd_Train γ _ _ (by decide)) rfl dX6_mixedWithTrain_14 ?_
      rw [hc]
      refine v_icmp_ge_n (tgt := 99) X dX6_mixedWithTrain_17 (by decide) (by omega) (by omega) (fun c_1 => ?_) (fun c_1 => ?_)
      · obtain rfl : a = cn := by omega
        refine v_lload_n X rfl dX6_mixedWithTrain_99 ?_
        subst hQ0
        exact v_lret X rfl (Nat.le_of_ble_eq_true rfl) (Nat.le_of_ble_eq_true rfl) dX6_mixedWithTrain_100 ⟨rfl, (CI_w hI).symm⟩
      · refine v_iconst' X kc_0 dX6_mixedWithTrain_20 ?_
        refine v_istore X (Nat.le_of_ble_eq_true rfl) rfl dX6_mixedWithTrain_21 ?_
        have lp23 : ∀ (n2 : Nat) (b : Nat), b ≤ 5 ∧ 6 ≤ b + n2 → V p l e { frames := 4, cells := 0, slots := 0, locals := 89 } s m args below meth c γ Q0 (rdw γ (wset W 0 M)) 0 0 23 [some (.ref γ.1), some (.long g0), none, some (.long (s_mixN (fun k => s_wag M cn (nI a) (nI k)) (s_mixWs M cn g0 a) b)), none, some (.int (nI a)), some (.int (nI b)), none] [] := by
          intro n2
          induction n2 with
          | zero =>
            intro b hbn2
            exact absurd hbn2 (by omega)
          | succ n2 ihn2 =>
            intro b hbn2
            refine v_iload X rfl dX6_mixedWithTrain_23 ?_
            refine v_iconst' X kc_5 dX6_mixedWithTrain_25 ?_
            refine v_icmp_ge_n (tgt := 48) X dX6_mixedWithTrain_26 (by decide) (by omega) (by omega) (fun c_2 => ?_) (fun c_2 => ?_)
            · obtain rfl : b = 5 := by omega
              refine v_iconst' X kc_0 dX6_mixedWithTrain_48 ?_
              refine v_istore X (Nat.le_of_ble_eq_true rfl) rfl dX6_mixedWithTrain_49 ?_
              have lp51 : ∀ (n3 : Nat) (d : Nat), d ≤ 3 ∧ 4 ≤ d + n3 → V p l e { frames := 4, cells := 0, slots := 0, locals := 89 } s m args below meth c γ Q0 (rdw γ (wset W 0 M)) 0 0 51 [some (.ref γ.1), some (.long g0), none, some (.long (s_mixN (fun k => s_door M cn (nI a) (nI (k / 2)) (nI (k % 2))) (s_mixN (fun k => s_wag M cn (nI a) (nI k)) (s_mixWs M cn g0 a) 5) (2 * d))), none, some (.int (nI a)), some (.int (nI d)), none] [] := by
                intro n3
                induction n3 with
                | zero =>
                  intro d hbn3
                  exact absurd hbn3 (by omega)
                | succ n3 ihn3 =>
                  intro d hbn3
                  refine v_iload X rfl dX6_mixedWithTrain_51 ?_
                  refine v_iconst' X kc_3 dX6_mixedWithTrain_53 ?_
                  refine v_icmp_ge_n (tgt := 93) X dX6_mixedWithTrain_54 (by decide) (by omega) (by omega) (fun c_3 => ?_) (fun c_3 => ?_)
                  · obtain rfl : d = 3 := by omega
                    refine v_iinc' X rfl rfl (nI_inc _) dX6_mixedWithTrain_93 ?_
                    refine v_goto (tgt := 5) X dX6_mixedWithTrain_96 (by decide) ?_
                    exact v_Ln (ihn1 (a + 1) ⟨by omega, by omega⟩) ⟨Or.inr rfl, Or.inr rfl, Or.inl rfl, Or.inr rfl, Or.inl rfl, Or.inr rfl, Or.inl rfl, Or.inl rfl, trivial⟩
                  · refine v_iconst' X kc_0 dX6_mixedWithTrain_57 ?_
                    refine v_istore X (Nat.le_of_ble_eq_true rfl) rfl dX6_mixedWithTrain_58 ?_
                    have lp60 : ∀ (n4 : Nat) (f : Nat), f ≤ 2 ∧ 3 ≤ f + n4 → V p l e { frames := 4, cells := 0, slots := 0, locals := 89 } s m args below meth c γ Q0 (rdw γ (wset W 0 M)) 0 0 60 [some (.ref γ.1), some (.long g0), none, some (.long (s_mixN (fun k => s_door M cn (nI a) (nI (k / 2)) (nI (k % 2))) (s_mixN (fun k => s_wag M cn (nI a) (nI k)) (s_mixWs M cn g0 a) 5) (2 * d + f))), none, some (.int (nI a)), some (.int (nI d)), some (.int (nI f))] [] := by
                      intro n4
                      induction n4 with
                      | zero =>
                        intro f hbn4
                        exact absurd hbn4 (by omega)
                      | succ n4 ihn4 =>
                        intro f hbn4
                        refine v_iload X rfl dX6_mixedWithTrain_60 ?_
                        refine v_iconst' X kc_2 dX6_mixedWithTrain_62 ?_
                        refine v_icmp_ge_n (tgt := 87) X dX6_mixedWithTrain_63 (by decide) (by omega) (by omega) (fun c_4 => ?_) (fun c_4 => ?_)
                        · obtain rfl : f = 2 := by omega
                          refine v_iinc' X rfl rfl (nI_inc _) dX6_mixedWithTrain_87 ?_
                          refine v_goto (tgt := 51) X dX6_mixedWithTrain_90 (by decide) ?_
                          exact v_Ln (ihn3 (d + 1) ⟨by omega, by omega⟩) ⟨Or.inr rfl, Or.inr rfl, Or.inl rfl, Or.inr rfl, Or.inl rfl, Or.inr rfl, Or.inr rfl, Or.inl rfl, trivial⟩
                        · refine v_lload_n X rfl dX6_mixedWithTrain_66 ?_
                          refine v_aload_n X rfl dX6_mixedWithTrain_67 ?_
                          refine v_iload X rfl dX6_mixedWithTrain_68 ?_
                          refine v_iload X rfl dX6_mixedWithTrain_70 ?_
                          refine v_iload X rfl dX6_mixedWithTrain_72 ?_
                          refine v_callV (ci := 7) X mv_X6_261 (c_X6_doorOf l γ (wset W 0 M) nc M P T u t cn q tm hI2 (nI a) (nI d) (nI f)) rfl rfl (rd_BT γ _) rfl ⟨Nat.le_of_ble_eq_true rfl, Nat.le_of_ble_eq_true rfl, Nat.le_of_ble_eq_true rfl, Nat.le_of_ble_eq_true rfl⟩ (Nat.le_of_ble_eq_true rfl) rfl dX6_mixedWithTrain_74 rfl (det_i ?_)
                          rw [door_e (by omega : f < 2)]
                          refine v_callS X ms_X6_238 (c_X6_mixed l γ _ _ _) rfl ⟨Nat.le_of_ble_eq_true rfl, Nat.le_of_ble_eq_true rfl, Nat.le_of_ble_eq_true rfl, Nat.le_of_ble_eq_true rfl⟩ (Nat.le_of_ble_eq_true rfl) rfl dX6_mixedWithTrain_77 rfl (det_l ?_)
                          refine v_lstore_n X (Nat.le_of_ble_eq_true rfl) rfl dX6_mixedWithTrain_80 ?_
                          refine v_iinc' X rfl rfl (nI_inc _) dX6_mixedWithTrain_81 ?_
                          refine v_goto (tgt := 60) X dX6_mixedWithTrain_84 (by decide) ?_
                          exact v_Ln (ihn4 (f + 1) ⟨by omega, by omega⟩) ⟨Or.inr rfl, Or.inr rfl, Or.inl rfl, Or.inr rfl, Or.inl rfl, Or.inr rfl, Or.inr rfl, Or.inr rfl, trivial⟩
                    exact v_Ln (lp60 3 0 ⟨by omega, by omega⟩) ⟨Or.inr rfl, Or.inr rfl, Or.inl rfl, Or.inr rfl, Or.inl rfl, Or.inr rfl, Or.inr rfl, Or.inr rfl, trivial⟩
              exact v_Ln (lp51 4 0 ⟨by omega, by omega⟩) ⟨Or.inr rfl, Or.inr rfl, Or.inl rfl, Or.inr rfl, Or.inl rfl, Or.inr rfl, Or.inr rfl, Or.inl rfl, trivial⟩
            · refine v_lload_n X rfl dX6_mixedWithTrain_29 ?_
              refine v_aload_n X rfl dX6_mixedWithTrain_30 ?_
              refine v_iload X rfl dX6_mixedWithTrain_31 ?_
              refine v_iload X rfl dX6_mixedWithTrain_33 ?_
              refine v_callV (ci := 7) X mv_X6_258 (c_X6_wagon l γ (wset W 0 M) nc M P T u t cn q tm hI2 (nI a) (nI b)) rfl rfl (rd_BT γ _) rfl ⟨Nat.le_of_ble_eq_true rfl, Nat.le_of_ble_eq_true rfl, Nat.le_of_ble_eq_true rfl, Nat.le_of_ble_eq_true rfl⟩ (Nat.le_of_ble_eq_true rfl) rfl dX6_mixedWithTrain_35 rfl (det_i ?_)
              refine v_callS X ms_X6_238 (c_X6_mixed l γ _ _ _) rfl ⟨Nat.le_of_ble_eq_true rfl, Nat.le_of_ble_eq_true rfl, Nat.le_of_ble_eq_true rfl, Nat.le_of_ble_eq_true rfl⟩ (Nat.le_of_ble_eq_true rfl) rfl dX6_mixedWithTrain_38 rfl (det_l ?_)
              refine v_lstore_n X (Nat.le_of_ble_eq_true rfl) rfl dX6_mixedWithTrain_41 ?_
              refine v_iinc' X rfl rfl (nI_inc _) dX6_mixedWithTrain_42 ?_
              refine v_goto (tgt := 23) X dX6_mixedWithTrain_45 (by decide) ?_
              exact v_Ln (ihn2 (b + 1) ⟨by omega, by omega⟩) ⟨Or.inr rfl, Or.inr rfl, Or.inl rfl, Or.inr rfl, Or.inl rfl, Or.inr rfl, Or.inr rfl, Or.inl rfl, trivial⟩
        exact v_Ln (lp23 6 0 ⟨by omega, by omega⟩) ⟨Or.inr rfl, Or.inr rfl, Or.inl rfl, Or.inr rfl, Or.inl rfl, Or.inr rfl, Or.inr rfl, Or.inl rfl, trivial⟩
  exact v_Ln (lp5 (cn + 1) 0 ⟨by omega, by omega⟩) ⟨Or.inr rfl, Or.inr rfl, Or.inl rfl, Or.inr rfl, Or.inl rfl, Or.inr rfl, Or.inl rfl, Or.inl rfl, trivial⟩
set_option maxHeartbeats 4000000 in
set_option maxRecDepth 100000 in
theorem c_X6_mixedWithTrack (l : Launch) (γ : Gm) (W : Wd) (nc : Nat) (M P T : Nat → Int32) (u t cn q tm : Nat) (hI : CI γ W nc M P T u t cn q tm) (g0 : Int64) : Cr l γ yX6_mixedWithTrack cX6_mixedWithTrack 7 (some .long) 5 112 0 0 [.ref γ.1, .long g0] (rdw γ W) (Det (some (.long (s_mix (s_mixN (fun k => s_prof M (nI (k / 6)) (nI (k % 6))) (s_mixN M g0 120) 18) (s_lack M (-1))))) (rdw γ W)) := by
  refine Cr_of [some (.ref γ.1), some (.long g0), none, none, none, none, none] (by decide +kernel) (Nat.le_of_ble_eq_true rfl) rfl ?_
  intro p e s m args below meth c X
  refine v_q0 (fun Q0 hQ0 => ?_)
  have hI0 := hI
  obtain ⟨hM, hV, hF, hL1, hL8, hH, hX, hN⟩ := hI0
  obtain ⟨hVS, hT, hT9⟩ := hV
  obtain ⟨⟨hc, h1, h6⟩, hOQ, hTP, hHB, hSR⟩ := hVS
  have h10 := hOQ.2.1
  have hB9 : 3600 * (tm : Int) < 1000000000 := by omega
  refine v_eqh (CI_w hI) ?_
  have hI2 := hI.self
  refine v_lload_n X rfl dX6_mixedWithTrack_0 ?_
  refine v_lstore_n X (Nat.le_of_ble_eq_true rfl) rfl dX6_mixedWithTrack_1 ?_
  refine v_iconst' X kc_0 dX6_mixedWithTrack_2 ?_
  refine v_istore X (Nat.le_of_ble_eq_true rfl) rfl dX6_mixedWithTrack_3 ?_
  have lp5 : ∀ (n1 : Nat) (a : Nat), a ≤ 40 ∧ 41 ≤ a + n1 → V p l e { frames := 5, cells := 0, slots := 0, locals := 112 } s m args below meth c γ Q0 (rdw γ (wset W 0 M)) 0 0 5 [some (.ref γ.1), some (.long g0), none, some (.long (s_mixN M g0 (3 * a))), none, some (.int (nI a)), none] [] := by
    intro n1
    induction n1 with
    | zero =>
      intro a hbn1
      exact absurd hbn1 (by omega)
    | succ n1 ihn1 =>
      intro a hbn1
      refine v_iload X rfl dX6_mixedWithTrack_5 ?_
      refine v_bipush' X kb_40 dX6_mixedWithTrack_7 ?_
      refine v_icmp_ge_n (tgt := 46) X dX6_mixedWithTrack_9 (by decide) (by omega) (by omega) (fun c_1 => ?_) (fun c_1 => ?_)
      · obtain rfl : a = 40 := by omega
        refine v_iconst' X kc_0 dX6_mixedWithTrack_46 ?_
        refine v_istore X (Nat.le_of_ble_eq_true rfl) rfl dX6_mixedWithTrack_47 ?_
        have lp49 : ∀ (n3 : Nat) (d : Nat), d ≤ 3 ∧ 4 ≤ d + n3 → V p l e { frames := 5, cells := 0, slots := 0, locals := 112 } s m args below meth c γ Q0 (rdw γ (wset W 0 M)) 0 0 49 [some (.ref γ.1), some (.long g0), none, some (.long (s_mixN (fun k => s_prof M (nI (k / 6)) (nI (k % 6))) (s_mixN M g0 120) (6 * d))), none, some (.int (nI d)), none] [] := by
          intro n3
          induction n3 with
          | zero =>
            intro d hbn3
            exact absurd hbn3 (by omega)
          | succ n3 ihn3 =>
            intro d hbn3
            refine v_iload X rfl dX6_mixedWithTrack_49 ?_
            refine v_iconst' X kc_3 dX6_mixedWithTrack_51 ?_
            refine v_icmp_ge_n (tgt := 90) X dX6_mixedWithTrack_52 (by decide) (by omega) (by omega) (fun c_2 => ?_) (fun c_2 => ?_)
            · obtain rfl : d = 3 := by omega
              refine v_lload_n X rfl dX6_mixedWithTrack_90 ?_
              refine v_aload_n X rfl dX6_mixedWithTrack_91 ?_
              refine v_iconst' X kc_m1 dX6_mixedWithTrack_92 ?_
              refine v_callV (ci := 7) X mv_X6_271 (c_X6_lacking l γ (wset W 0 M) nc M P T u t cn q tm hI2 (-1)) rfl rfl (rd_BT γ _) rfl ⟨Nat.le_of_ble_eq_true rfl, Nat.le_of_ble_eq_true rfl, Nat.le_of_ble_eq_true rfl, Nat.le_of_ble_eq_true rfl⟩ (Nat.le_of_ble_eq_true rfl) rfl dX6_mixedWithTrack_93 rfl (det_i ?_)
              refine v_callS X ms_X6_238 (c_X6_mixed l γ _ _ _) rfl ⟨Nat.le_of_ble_eq_true rfl, Nat.le_of_ble_eq_true rfl, Nat.le_of_ble_eq_true rfl, Nat.le_of_ble_eq_true rfl⟩ (Nat.le_of_ble_eq_true rfl) rfl dX6_mixedWithTrack_96 rfl (det_l ?_)
              subst hQ0
              exact v_lret X rfl (Nat.le_of_ble_eq_true rfl) (Nat.le_of_ble_eq_true rfl) dX6_mixedWithTrack_99 ⟨rfl, (CI_w hI).symm⟩
            · refine v_iconst' X kc_0 dX6_mixedWithTrack_55 ?_
              refine v_istore X (Nat.le_of_ble_eq_true rfl) rfl dX6_mixedWithTrack_56 ?_
              have lp58 : ∀ (n4 : Nat) (f : Nat), f ≤ 6 ∧ 7 ≤ f + n4 → V p l e { frames := 5, cells := 0, slots := 0, locals := 112 } s m args below meth c γ Q0 (rdw γ (wset W 0 M)) 0 0 58 [some (.ref γ.1), some (.long g0), none, some (.long (s_mixN (fun k => s_prof M (nI (k / 6)) (nI (k % 6))) (s_mixN M g0 120) (6 * d + f))), none, some (.int (nI d)), some (.int (nI f))] [] := by
                intro n4
                induction n4 with
                | zero =>
                  intro f hbn4
                  exact absurd hbn4 (by omega)
                | succ n4 ihn4 =>
                  intro f hbn4
                  refine v_iload X rfl dX6_mixedWithTrack_58 ?_
                  refine v_bipush' X kb_6 dX6_mixedWithTrack_60 ?_
                  refine v_icmp_ge_n (tgt := 84) X dX6_mixedWithTrack_62 (by decide) (by omega) (by omega) (fun c_3 => ?_) (fun c_3 => ?_)
                  · obtain rfl : f = 6 := by omega
                    refine v_iinc' X rfl rfl (nI_inc _) dX6_mixedWithTrack_84 ?_
                    refine v_goto (tgt := 49) X dX6_mixedWithTrack_87 (by decide) ?_
                    exact v_Ln (ihn3 (d + 1) ⟨by omega, by omega⟩) ⟨Or.inr rfl, Or.inr rfl, Or.inl rfl, Or.inr rfl, Or.inl rfl, Or.inr rfl, Or.inl rfl, trivial⟩
                  · refine v_lload_n X rfl dX6_mixedWithTrack_65 ?_
                    refine v_aload_n X rfl dX6_mixedWithTrack_66 ?_
                    refine v_iload X rfl dX6_mixedWithTrack_67 ?_
                    refine v_iload X rfl dX6_mixedWithTrack_69 ?_
                    refine v_callV (ci := 7) X mv_X6_268 (c_X6_profile l γ (wset W 0 M) nc M P T u t cn q tm hI2 (nI d) (nI f)) rfl rfl (rd_BT γ _) rfl ⟨Nat.le_of_ble_eq_true rfl, Nat.le_of_ble_eq_true rfl, Nat.le_of_ble_eq_true rfl, Nat.le_of_ble_eq_true rfl⟩ (Nat.le_of_ble_eq_true rfl) rfl dX6_mixedWithTrack_71 rfl (det_i ?_)
                    rw [prof_e (by omega : f < 6)]
                    refine v_callS X ms_X6_238 (c_X6_mixed l γ _ _ _) rfl ⟨Nat.le_of_ble_eq_true rfl, Nat.le_of_ble_eq_true rfl, Nat.le_of_ble_eq_true rfl, Nat.le_of_ble_eq_true rfl⟩ (Nat.le_of_ble_eq_true rfl) rfl dX6_mixedWithTrack_74 rfl (det_l ?_)
                    refine v_lstore_n X (Nat.le_of_ble_eq_true rfl) rfl dX6_mixedWithTrack_77 ?_
                    refine v_iinc' X rfl rfl (nI_inc _) dX6_mixedWithTrack_78 ?_
                    refine v_goto (tgt := 58) X dX6_mixedWithTrack_81 (by decide) ?_
                    exact v_Ln (ihn4 (f + 1) ⟨by omega, by omega⟩) ⟨Or.inr rfl, Or.inr rfl, Or.inl rfl, Or.inr rfl, Or.inl rfl, Or.inr rfl, Or.inr rfl, trivial⟩
              exact v_Ln (lp58 7 0 ⟨by omega, by omega⟩) ⟨Or.inr rfl, Or.inr rfl, Or.inl rfl, Or.inr rfl, Or.inl rfl, Or.inr rfl, Or.inr rfl, trivial⟩
        exact v_Ln (lp49 4 0 ⟨by omega, by omega⟩) ⟨Or.inr rfl, Or.inr rfl, Or.inl rfl, Or.inr rfl, Or.inl rfl, Or.inr rfl, Or.inl rfl, trivial⟩
      · refine v_iconst' X kc_0 dX6_mixedWithTrack_12 ?_
        refine v_istore X (Nat.le_of_ble_eq_true rfl) rfl dX6_mixedWithTrack_13 ?_
        have lp15 : ∀ (n2 : Nat) (b : Nat), b ≤ 3 ∧ 4 ≤ b + n2 → V p l e { frames := 5, cells := 0, slots := 0, locals := 112 } s m args below meth c γ Q0 (rdw γ (wset W 0 M)) 0 0 15 [some (.ref γ.1), some (.long g0), none, some (.long (s_mixN M g0 (3 * a + b))), none, some (.int (nI a)), some (.int (nI b))] [] := by
          intro n2
          induction n2 with
          | zero =>
            intro b hbn2
            exact absurd hbn2 (by omega)
          | succ n2 ihn2 =>
            intro b hbn2
            refine v_iload X rfl dX6_mixedWithTrack_15 ?_
            refine v_iconst' X kc_3 dX6_mixedWithTrack_17 ?_
            refine v_icmp_ge_n (tgt := 40) X dX6_mixedWithTrack_18 (by decide) (by omega) (by omega) (fun c_4 => ?_) (fun c_4 => ?_)
            · obtain rfl : b = 3 := by omega
              refine v_iinc' X rfl rfl (nI_inc _) dX6_mixedWithTrack_40 ?_
              refine v_goto (tgt := 5) X dX6_mixedWithTrack_43 (by decide) ?_
              exact v_Ln (ihn1 (a + 1) ⟨by omega, by omega⟩) ⟨Or.inr rfl, Or.inr rfl, Or.inl rfl, Or.inr rfl, Or.inl rfl, Or.inr rfl, Or.inl rfl, trivial⟩
            · refine v_lload_n X rfl dX6_mixedWithTrack_21 ?_
              refine v_aload_n X rfl dX6_mixedWithTrack_22 ?_
              refine v_iload X rfl dX6_mixedWithTrack_23 ?_
              refine v_iload X rfl dX6_mixedWithTrack_25 ?_
              refine v_callV (ci := 7) X mv_X6_265 (c_X6_height l γ (wset W 0 M) nc M P T u t cn q tm hI2 (nI a) (nI b)) rfl rfl (rd_BT γ _) rfl ⟨Nat.le_of_ble_eq_true rfl, Nat.le_of_ble_eq_true rfl, Nat.le_of_ble_eq_true rfl, Nat.le_of_ble_eq_true rfl⟩ (Nat.le_of_ble_eq_true rfl) rfl dX6_mixedWithTrack_27 rfl (det_i ?_)
              rw [height_e (by omega) (by omega)]
              refine v_callS X ms_X6_238 (c_X6_mixed l γ _ _ _) rfl ⟨Nat.le_of_ble_eq_true rfl, Nat.le_of_ble_eq_true rfl, Nat.le_of_ble_eq_true rfl, Nat.le_of_ble_eq_true rfl⟩ (Nat.le_of_ble_eq_true rfl) rfl dX6_mixedWithTrack_30 rfl (det_l ?_)
              refine v_lstore_n X (Nat.le_of_ble_eq_true rfl) rfl dX6_mixedWithTrack_33 ?_
              refine v_iinc' X rfl rfl (nI_inc _) dX6_mixedWithTrack_34 ?_
              refine v_goto (tgt := 15) X dX6_mixedWithTrack_37 (by decide) ?_
              exact v_Ln (ihn2 (b + 1) ⟨by omega, by omega⟩) ⟨Or.inr rfl, Or.inr rfl, Or.inl rfl, Or.inr rfl, Or.inl rfl, Or.inr rfl, Or.inr rfl, trivial⟩
        exact v_Ln (lp15 4 0 ⟨by omega, by omega⟩) ⟨Or.inr rfl, Or.inr rfl, Or.inl rfl, Or.inr rfl, Or.inl rfl, Or.inr rfl, Or.inr rfl, trivial⟩
  exact v_Ln (lp5 41 0 ⟨by omega, by omega⟩) ⟨Or.inr rfl, Or.inr rfl, Or.inl rfl, Or.inr rfl, Or.inl rfl, Or.inr rfl, Or.inl rfl, trivial⟩
set_option maxHeartbeats 4000000 in
set_option maxRecDepth 100000 in
theorem c_X6_mixedWithOrders (l : Launch) (γ : Gm) (W : Wd) (nc : Nat) (M P T : Nat → Int32) (u t cn q tm : Nat) (hI : CI γ W nc M P T u t cn q tm) (g0 : Int64) : Cr l γ yX6_mixedWithOrders cX6_mixedWithOrders 7 (some .long) 4 86 0 0 [.ref γ.1, .long g0] (rdw γ W) (Det (some (.long (s_mixN (fun k => M (168 + k)) g0 (5 * q)))) (rdw γ W)) := by
  refine Cr_of [some (.ref γ.1), some (.long g0), none, none, none, none, none] (by decide +kernel) (Nat.le_of_ble_eq_true rfl) rfl ?_
  intro p e s m args below meth c X
  refine v_q0 (fun Q0 hQ0 => ?_)
  have hI0 := hI
  obtain ⟨hM, hV, hF, hL1, hL8, hH, hX, hN⟩ := hI0
  obtain ⟨hVS, hT, hT9⟩ := hV
  obtain ⟨⟨hc, h1, h6⟩, hOQ, hTP, hHB, hSR⟩ := hVS
  have h10 := hOQ.2.1
  have hB9 : 3600 * (tm : Int) < 1000000000 := by omega
  refine v_eqh (CI_w hI) ?_
  have hI2 := hI.self
  obtain ⟨row, hLB, hLR⟩ := hF
  refine v_lload_n X rfl dX6_mixedWithOrders_0 ?_
  refine v_lstore_n X (Nat.le_of_ble_eq_true rfl) rfl dX6_mixedWithOrders_1 ?_
  refine v_iconst' X kc_0 dX6_mixedWithOrders_2 ?_
  refine v_istore X (Nat.le_of_ble_eq_true rfl) rfl dX6_mixedWithOrders_3 ?_
  have lp5 : ∀ (n1 : Nat) (a : Nat), a ≤ q ∧ q + 1 ≤ a + n1 → V p l e { frames := 4, cells := 0, slots := 0, locals := 86 } s m args below meth c γ Q0 (rdw γ (wset W 0 M)) 0 0 5 [some (.ref γ.1), some (.long g0), none, some (.long (s_mixN (fun k => M (168 + k)) g0 (5 * a))), none, some (.int (nI a)), none] [] := by
    intro n1
    induction n1 with
    | zero =>
      intro a hbn1
      exact absurd hbn1 (by omega)
    | succ n1 ihn1 =>
      intro a hbn1
      refine v_iload X rfl dX6_mixedWithOrders_5 ?_
      refine v_aload_n X rfl dX6_mixedWithOrders_7 ?_
      refine v_getf X fd_X6_19 (rd_BT γ _) rfl dX6_mixedWithOrders_8 ?_
      refine v_getf X fd_X6_112 (rd_State γ _ _ (by decide)) rfl dX6_mixedWithOrders_11 ?_
      refine v_callV (ci := 0) X mv_X6_116 (k_size l γ (wset W 0 M) 0 q row (by decide) _ rfl hLB) rfl rfl (rd_SList γ (k := 0) _ (by decide)) rfl ⟨Nat.le_of_ble_eq_true rfl, Nat.le_of_ble_eq_true rfl, Nat.le_of_ble_eq_true rfl, Nat.le_of_ble_eq_true rfl⟩ (Nat.le_of_ble_eq_true rfl) rfl dX6_mixedWithOrders_14 rfl (det_i ?_)
      refine v_icmp_ge_n (tgt := 54) X dX6_mixedWithOrders_17 (by decide) (by omega) (by omega) (fun c_1 => ?_) (fun c_1 => ?_)
      · obtain rfl : a = q := by omega
        refine v_lload_n X rfl dX6_mixedWithOrders_54 ?_
        subst hQ0
        exact v_lret X rfl (Nat.le_of_ble_eq_true rfl) (Nat.le_of_ble_eq_true rfl) dX6_mixedWithOrders_55 ⟨rfl, (CI_w hI).symm⟩
      · refine v_iconst' X kc_0 dX6_mixedWithOrders_20 ?_
        refine v_istore X (Nat.le_of_ble_eq_true rfl) rfl dX6_mixedWithOrders_21 ?_
        have lp23 : ∀ (n2 : Nat) (b : Nat), b ≤ 5 ∧ 6 ≤ b + n2 → V p l e { frames := 4, cells := 0, slots := 0, locals := 86 } s m args below meth c γ Q0 (rdw γ (wset W 0 M)) 0 0 23 [some (.ref γ.1), some (.long g0), none, some (.long (s_mixN (fun k => M (168 + k)) g0 (5 * a + b))), none, some (.int (nI a)), some (.int (nI b))] [] := by
          intro n2
          induction n2 with
          | zero =>
            intro b hbn2
            exact absurd hbn2 (by omega)
          | succ n2 ihn2 =>
            intro b hbn2
            refine v_iload X rfl dX6_mixedWithOrders_23 ?_
            refine v_iconst' X kc_5 dX6_mixedWithOrders_25 ?_
            refine v_icmp_ge_n (tgt := 48) X dX6_mixedWithOrders_26 (by decide) (by omega) (by omega) (fun c_2 => ?_) (fun c_2 => ?_)
            · obtain rfl : b = 5 := by omega
              refine v_iinc' X rfl rfl (nI_inc _) dX6_mixedWithOrders_48 ?_
              refine v_goto (tgt := 5) X dX6_mixedWithOrders_51 (by decide) ?_
              exact v_Ln (ihn1 (a + 1) ⟨by omega, by omega⟩) ⟨Or.inr rfl, Or.inr rfl, Or.inl rfl, Or.inr rfl, Or.inl rfl, Or.inr rfl, Or.inl rfl, trivial⟩
            · refine v_lload_n X rfl dX6_mixedWithOrders_29 ?_
              refine v_aload_n X rfl dX6_mixedWithOrders_30 ?_
              refine v_iload X rfl dX6_mixedWithOrders_31 ?_
              refine v_iload X rfl dX6_mixedWithOrders_33 ?_
              refine v_callV (ci := 7) X mv_X6_274 (c_X6_ordered l γ (wset W 0 M) nc M P T u t cn q tm hI2 (nI a) (nI b)) rfl rfl (rd_BT γ _) rfl ⟨Nat.le_of_ble_eq_true rfl, Nat.le_of_ble_eq_true rfl, Nat.le_of_ble_eq_true rfl, Nat.le_of_ble_eq_true rfl⟩ (Nat.le_of_ble_eq_true rfl) rfl dX6_mixedWithOrders_35 rfl (det_i ?_)
              rw [ord_e h10 (by omega) (by omega)]
              refine v_callS X ms_X6_238 (c_X6_mixed l γ _ _ _) rfl ⟨Nat.le_of_ble_eq_true rfl, Nat.le_of_ble_eq_true rfl, Nat.le_of_ble_eq_true rfl, Nat.le_of_ble_eq_true rfl⟩ (Nat.le_of_ble_eq_true rfl) rfl dX6_mixedWithOrders_38 rfl (det_l ?_)
              refine v_lstore_n X (Nat.le_of_ble_eq_true rfl) rfl dX6_mixedWithOrders_41 ?_
              refine v_iinc' X rfl rfl (nI_inc _) dX6_mixedWithOrders_42 ?_
              refine v_goto (tgt := 23) X dX6_mixedWithOrders_45 (by decide) ?_
              exact v_Ln (ihn2 (b + 1) ⟨by omega, by omega⟩) ⟨Or.inr rfl, Or.inr rfl, Or.inl rfl, Or.inr rfl, Or.inl rfl, Or.inr rfl, Or.inr rfl, trivial⟩
        exact v_Ln (lp23 6 0 ⟨by omega, by omega⟩) ⟨Or.inr rfl, Or.inr rfl, Or.inl rfl, Or.inr rfl, Or.inl rfl, Or.inr rfl, Or.inr rfl, trivial⟩
  exact v_Ln (lp5 (q + 1) 0 ⟨by omega, by omega⟩) ⟨Or.inr rfl, Or.inr rfl, Or.inl rfl, Or.inr rfl, Or.inl rfl, Or.inr rfl, Or.inl rfl, trivial⟩
set_option maxHeartbeats 4000000 in
set_option maxRecDepth 100000 in
theorem c_X3_byteAt_w (l : Launch) (γ : Gm) (W : Wd) (n : Nat) (hn : W.1 8 60 = nI n) (h60 : n ≤ 60) (b : Nat) (hb : b < n) : Cr l γ yX3_byteAt cX3_byteAt 2 (some .int) 0 0 0 0 [.ref (γ.1 + 1), .int (nI b)] (rdw γ W) (Det (some (.int (W.1 8 b))) (rdw γ W)) := by
  refine Cr_of [some (.ref (γ.1 + 1)), some (.int (nI b))] (by decide +kernel) (Nat.le_of_ble_eq_true rfl) rfl ?_
  intro p e s m args below meth c X
  refine v_q0 (fun Q0 hQ0 => ?_)
  refine v_iload_n X rfl dX3_byteAt_0 ?_
  refine v_if_lt_n (tgt := 30) X dX3_byteAt_1 (by decide) (by omega) ?_
  refine v_iload_n X rfl dX3_byteAt_4 ?_
  refine v_aload_n X rfl dX3_byteAt_5 ?_
  refine v_getf X (v := (.int (W.1 8 60))) fd_X3_15 (rd_Text γ _) rfl dX3_byteAt_6 ?_
  rw [hn]
  refine v_icmp_ge_n (tgt := 30) X dX3_byteAt_9 (by decide) (by omega) (by omega) (fun q1 => ?_) (fun q1 => ?_)
  · exact absurd q1 (by omega)
  · refine v_iload_n X rfl dX3_byteAt_12 ?_
    refine v_aload_n X rfl dX3_byteAt_13 ?_
    refine v_getf X fd_X3_9 (rd_Text γ _) rfl dX3_byteAt_14 ?_
    refine v_alen (t0 := 0) X (rd_Bytes γ _) rfl dX3_byteAt_17 ?_
    refine v_icmp_ge_n (tgt := 30) X dX3_byteAt_18 (by decide) (by omega) (by omega) (fun q2 => ?_) (fun q2 => ?_)
    · exact absurd q2 (by omega)
    · refine v_aload_n X rfl dX3_byteAt_21 ?_
      refine v_getf X fd_X3_9 (rd_Text γ _) rfl dX3_byteAt_22 ?_
      refine v_iload_n X rfl dX3_byteAt_25 ?_
      refine v_iald' X (v := W.1 8 b) (rd_Bytes γ _) b rfl (by omega) (by decide) (vw_at (by omega)) dX3_byteAt_26 ?_
      refine v_goto (tgt := 31) X dX3_byteAt_27 (by decide) ?_
      subst hQ0
      exact v_iret X rfl (Nat.le_of_ble_eq_true rfl) (Nat.le_of_ble_eq_true rfl) dX3_byteAt_31 ⟨rfl, rfl⟩
set_option maxHeartbeats 4000000 in
set_option maxRecDepth 100000 in
theorem c_X6_digest (l : Launch) (γ : Gm) (W : Wd) (nc : Nat) (M P T : Nat → Int32) (u t cn q tm : Nat) (hI : CI γ W nc M P T u t cn q tm) : Cr l γ yX6_digest cX6_digest 4 (some .long) 10 236 24 360 [.ref γ.1] (rdw γ W) (fun v h' => v = some (.long (s_digest M T cn q u t)) ∧ ∃ W' : Wd, h' = rdw γ W' ∧ CI γ W' nc M P T u t cn q tm ∧ RB W W') := by
  refine Cr_of [some (.ref γ.1), none, none, none] (by decide +kernel) (Nat.le_of_ble_eq_true rfl) rfl ?_
  intro p e s m args below meth c X
  refine v_q0 (fun Q0 hQ0 => ?_)
  have hI0 := hI
  obtain ⟨hM, hV, hF, hL1, hL8, hH, hX, hN⟩ := hI0
  obtain ⟨hVS, hT, hT9⟩ := hV
  obtain ⟨⟨hc, h1, h6⟩, hOQ, hTP, hHB, hSR⟩ := hVS
  have h10 := hOQ.2.1
  have hB9 : 3600 * (tm : Int) < 1000000000 := by omega
  refine v_ldc2 X kl_X6_233 dX6_digest_0 ?_
  refine v_lstore_n X (Nat.le_of_ble_eq_true rfl) rfl dX6_digest_3 ?_
  refine v_iconst' X kc_0 dX6_digest_4 ?_
  refine v_istore_n X (Nat.le_of_ble_eq_true rfl) rfl dX6_digest_5 ?_
  have lp6 : ∀ (n1 : Nat) (a : Nat), a ≤ 19 ∧ 19 + 1 ≤ a + n1 → V p l e { frames := 10, cells := 24, slots := 360, locals := 236 } s m args below meth c γ Q0 (rdw γ W) 0 0 6 [some (.ref γ.1), some (.long (s_mixN (fun k => s_count M cn u t (nI k)) 149 a)), none, some (.int (nI a))] [] := by
    intro n1
    induction n1 with
    | zero =>
      intro a hbn1
      exact absurd hbn1 (by omega)
    | succ n1 ihn1 =>
      intro a hbn1
      refine v_iload_n X rfl dX6_digest_6 ?_
      refine v_bipush' X kb_19 dX6_digest_7 ?_
      refine v_icmp_ge_n (tgt := 28) X dX6_digest_9 (by decide) (by omega) (by omega) (fun c_1 => ?_) (fun c_1 => ?_)
      · obtain rfl : a = 19 := by omega
        refine v_aload_n X rfl dX6_digest_28 ?_
        refine v_lload_n X rfl dX6_digest_29 ?_
        refine v_callV (ci := 7) X mv_X6_242 (c_X6_mixedWithTrain l γ W nc M P T u t cn q tm hI _) rfl rfl (rd_BT γ _) rfl ⟨Nat.le_of_ble_eq_true rfl, Nat.le_of_ble_eq_true rfl, Nat.le_of_ble_eq_true rfl, Nat.le_of_ble_eq_true rfl⟩ (Nat.le_of_ble_eq_true rfl) rfl dX6_digest_30 rfl (det_l ?_)
        refine v_lstore_n X (Nat.le_of_ble_eq_true rfl) rfl dX6_digest_33 ?_
        refine v_aload_n X rfl dX6_digest_34 ?_
        refine v_lload_n X rfl dX6_digest_35 ?_
        refine v_callV (ci := 7) X mv_X6_246 (c_X6_mixedWithTrack l γ W nc M P T u t cn q tm hI _) rfl rfl (rd_BT γ _) rfl ⟨Nat.le_of_ble_eq_true rfl, Nat.le_of_ble_eq_true rfl, Nat.le_of_ble_eq_true rfl, Nat.le_of_ble_eq_true rfl⟩ (Nat.le_of_ble_eq_true rfl) rfl dX6_digest_36 rfl (det_l ?_)
        refine v_lstore_n X (Nat.le_of_ble_eq_true rfl) rfl dX6_digest_39 ?_
        refine v_aload_n X rfl dX6_digest_40 ?_
        refine v_lload_n X rfl dX6_digest_41 ?_
        refine v_callV (ci := 7) X mv_X6_249 (c_X6_mixedWithOrders l γ W nc M P T u t cn q tm hI _) rfl rfl (rd_BT γ _) rfl ⟨Nat.le_of_ble_eq_true rfl, Nat.le_of_ble_eq_true rfl, Nat.le_of_ble_eq_true rfl, Nat.le_of_ble_eq_true rfl⟩ (Nat.le_of_ble_eq_true rfl) rfl dX6_digest_42 rfl (det_l ?_)
        refine v_lstore_n X (Nat.le_of_ble_eq_true rfl) rfl dX6_digest_45 ?_
        refine v_aload_n X rfl dX6_digest_46 ?_
        refine v_bipush' X kb_20 dX6_digest_47 ?_
        refine v_callV (ci := 7) X mv_X6_211 (c_X6_lookAhead l γ W nc M P T u t cn q tm hI 20 (by decide)) rfl rfl (rd_BT γ _) rfl ⟨Nat.le_of_ble_eq_true rfl, Nat.le_of_ble_eq_true rfl, Nat.le_of_ble_eq_true rfl, Nat.le_of_ble_eq_true rfl⟩ (Nat.le_of_ble_eq_true rfl) rfl dX6_digest_49 rfl (nd_v (fun h9 hp9 => ?_))
        obtain ⟨W3, qn, rfl, hA⟩ := hp9
        obtain ⟨hI3, hR3⟩ := hA.ci (N := s_secs M 20) hI
        refine v_iconst' X kc_0 dX6_digest_52 ?_
        refine v_istore_n X (Nat.le_of_ble_eq_true rfl) rfl dX6_digest_53 ?_
        have lp54 : ∀ (n2 : Nat) (a : Nat), a ≤ 7 ∧ 7 + 1 ≤ a + n2 → V p l e { frames := 10, cells := 24, slots := 360, locals := 236 } s m args below meth c γ Q0 (rdw γ (wset W3 1 (s_secs M 20))) (0 + 12) (0 + 180) 54 [some (.ref γ.1), some (.long (s_mixN (fun k => s_fore M cn (nI 20) (nI k)) (s_mixN (fun k => M (168 + k)) (s_mix (s_mixN (fun k => s_prof M (nI (k / 6)) (nI (k % 6))) (s_mixN M (s_mixWs M cn (s_mixN (fun k => s_count M cn u t (nI k)) 149 19) cn) 120) 18) (s_lack M (-1))) (5 * q)) a)), none, some (.int (nI a))] [] := by
          intro n2
          induction n2 with
          | zero =>
            intro a hbn2
            exact absurd hbn2 (by omega)
          | succ n2 ihn2 =>
            intro a hbn2
            refine v_iload_n X rfl dX6_digest_54 ?_
            refine v_bipush' X kb_7 dX6_digest_55 ?_
            refine v_icmp_ge_n (tgt := 76) X dX6_digest_57 (by decide) (by omega) (by omega) (fun c_2 => ?_) (fun c_2 => ?_)
            · obtain rfl : a = 7 := by omega
              refine v_lload_n X rfl dX6_digest_76 ?_
              refine v_aload_n X rfl dX6_digest_77 ?_
              refine v_callV (ci := 7) X mv_X6_252 (c_X6_emptyAfter l γ (wset W3 1 (s_secs M 20)) nc M P T u t cn q tm hI3) rfl rfl (rd_BT γ _) rfl ⟨Nat.le_of_ble_eq_true rfl, Nat.le_of_ble_eq_true rfl, Nat.le_of_ble_eq_true rfl, Nat.le_of_ble_eq_true rfl⟩ (Nat.le_of_ble_eq_true rfl) rfl dX6_digest_78 rfl (nd_i (fun h9 hp9 => ?_))
              obtain ⟨W5, rfl, hI5, hR5⟩ := hp9
              have hX5 := hI5.2.2.2.2.2.2.1
              have h60 : t ≤ 60 := hX5.2.1
              refine v_callS X ms_X6_238 (c_X6_mixed l γ _ _ _) rfl ⟨Nat.le_of_ble_eq_true rfl, Nat.le_of_ble_eq_true rfl, Nat.le_of_ble_eq_true rfl, Nat.le_of_ble_eq_true rfl⟩ (Nat.le_of_ble_eq_true rfl) rfl dX6_digest_81 rfl (det_l ?_)
              refine v_lstore_n X (Nat.le_of_ble_eq_true rfl) rfl dX6_digest_84 ?_
              refine v_iconst' X kc_0 dX6_digest_85 ?_
              refine v_istore_n X (Nat.le_of_ble_eq_true rfl) rfl dX6_digest_86 ?_
              have lp87 : ∀ (n3 : Nat) (a : Nat), a ≤ t ∧ t + 1 ≤ a + n3 → V p l e { frames := 10, cells := 24, slots := 360, locals := 236 } s m args below meth c γ Q0 (rdw γ W5) (0 + 12 + 12) (0 + 180 + 180) 87 [some (.ref γ.1), some (.long (s_mixN T (s_mix (s_mixN (fun k => s_fore M cn (nI 20) (nI k)) (s_mixN (fun k => M (168 + k)) (s_mix (s_mixN (fun k => s_prof M (nI (k / 6)) (nI (k % 6))) (s_mixN M (s_mixWs M cn (s_mixN (fun k => s_count M cn u t (nI k)) 149 19) cn) 120) 18) (s_lack M (-1))) (5 * q)) 7) (s_emp M cn)) a)), none, some (.int (nI a))] [] := by
                intro n3
                induction n3 with
                | zero =>
                  intro a hbn3
                  exact absurd hbn3 (by omega)
                | succ n3 ihn3 =>
                  intro a hbn3
                  refine v_iload_n X rfl dX6_digest_87 ?_
                  refine v_aload_n X rfl dX6_digest_88 ?_
                  refine v_getf X fd_X6_10 (rd_BT γ _) rfl dX6_digest_89 ?_
                  refine v_getf X (v := (.int (W5.1 8 60))) fd_X6_41 (rd_Text γ _) rfl dX6_digest_92 ?_
                  rw [hX5.1]
                  refine v_icmp_ge_n (tgt := 117) X dX6_digest_95 (by decide) (by omega) (by omega) (fun c_3 => ?_) (fun c_3 => ?_)
                  · obtain rfl : a = t := by omega
                    refine v_lload_n X rfl dX6_digest_117 ?_
                    subst hQ0
                    exact v_lret X rfl (Nat.le_of_ble_eq_true rfl) (Nat.le_of_ble_eq_true rfl) dX6_digest_118 ⟨rfl, W5, rfl, hI5, hR3.trans hR5⟩
                  · refine v_lload_n X rfl dX6_digest_98 ?_
                    refine v_aload_n X rfl dX6_digest_99 ?_
                    refine v_getf X fd_X6_10 (rd_BT γ _) rfl dX6_digest_100 ?_
                    refine v_iload_n X rfl dX6_digest_103 ?_
                    refine v_callV (ci := 4) X mv_X6_255 (c_X3_byteAt_w l γ W5 t hX5.1 hX5.2.1 a (by omega)) rfl rfl (rd_Text γ _) rfl ⟨Nat.le_of_ble_eq_true rfl, Nat.le_of_ble_eq_true rfl, Nat.le_of_ble_eq_true rfl, Nat.le_of_ble_eq_true rfl⟩ (Nat.le_of_ble_eq_true rfl) rfl dX6_digest_104 rfl (det_i ?_)
                    rw [hX5.2.2.1 a (by omega)]
                    refine v_callS X ms_X6_238 (c_X6_mixed l γ _ _ _) rfl ⟨Nat.le_of_ble_eq_true rfl, Nat.le_of_ble_eq_true rfl, Nat.le_of_ble_eq_true rfl, Nat.le_of_ble_eq_true rfl⟩ (Nat.le_of_ble_eq_true rfl) rfl dX6_digest_107 rfl (det_l ?_)
                    refine v_lstore_n X (Nat.le_of_ble_eq_true rfl) rfl dX6_digest_110 ?_
                    refine v_iinc' X rfl rfl (nI_inc _) dX6_digest_111 ?_
                    refine v_goto (tgt := 87) X dX6_digest_114 (by decide) ?_
                    exact v_Ln (ihn3 (a + 1) ⟨by omega, by omega⟩) ⟨Or.inr rfl, Or.inr rfl, Or.inl rfl, Or.inr rfl, trivial⟩
              exact v_Ln (lp87 (t + 1) 0 ⟨by omega, by omega⟩) ⟨Or.inr rfl, Or.inr rfl, Or.inl rfl, Or.inr rfl, trivial⟩
            · refine v_lload_n X rfl dX6_digest_60 ?_
              refine v_aload_n X rfl dX6_digest_61 ?_
              refine v_iload_n X rfl dX6_digest_62 ?_
              refine v_callV (ci := 7) X mv_X6_214 (c_X6_foretold l γ (wset W3 1 (s_secs M 20)) (s_secs M 20) (ws_same _ _ _) cn qn _ hA.2.2.2.2.1 (by omega) (hA.2.2.2.1.ext (Ext.ws _ _ _) rfl) a (by omega)) rfl rfl (rd_BT γ _) rfl ⟨Nat.le_of_ble_eq_true rfl, Nat.le_of_ble_eq_true rfl, Nat.le_of_ble_eq_true rfl, Nat.le_of_ble_eq_true rfl⟩ (Nat.le_of_ble_eq_true rfl) rfl dX6_digest_63 rfl (det_i ?_)
              rw [fore_e (by omega)]
              refine v_callS X ms_X6_238 (c_X6_mixed l γ _ _ _) rfl ⟨Nat.le_of_ble_eq_true rfl, Nat.le_of_ble_eq_true rfl, Nat.le_of_ble_eq_true rfl, Nat.le_of_ble_eq_true rfl⟩ (Nat.le_of_ble_eq_true rfl) rfl dX6_digest_66 rfl (det_l ?_)
              refine v_lstore_n X (Nat.le_of_ble_eq_true rfl) rfl dX6_digest_69 ?_
              refine v_iinc' X rfl rfl (nI_inc _) dX6_digest_70 ?_
              refine v_goto (tgt := 54) X dX6_digest_73 (by decide) ?_
              exact v_Ln (ihn2 (a + 1) ⟨by omega, by omega⟩) ⟨Or.inr rfl, Or.inr rfl, Or.inl rfl, Or.inr rfl, trivial⟩
        exact v_Ln (lp54 (7 + 1) 0 ⟨by omega, by omega⟩) ⟨Or.inr rfl, Or.inr rfl, Or.inl rfl, Or.inr rfl, trivial⟩
      · refine v_lload_n X rfl dX6_digest_12 ?_
        refine v_aload_n X rfl dX6_digest_13 ?_
        refine v_iload_n X rfl dX6_digest_14 ?_
        refine v_callV (ci := 7) X mv_X6_235 (c_X6_count l γ W nc M P T u t cn q tm hI (nI a)) rfl rfl (rd_BT γ _) rfl ⟨Nat.le_of_ble_eq_true rfl, Nat.le_of_ble_eq_true rfl, Nat.le_of_ble_eq_true rfl, Nat.le_of_ble_eq_true rfl⟩ (Nat.le_of_ble_eq_true rfl) rfl dX6_digest_15 rfl (det_i ?_)
        refine v_callS X ms_X6_238 (c_X6_mixed l γ _ _ _) rfl ⟨Nat.le_of_ble_eq_true rfl, Nat.le_of_ble_eq_true rfl, Nat.le_of_ble_eq_true rfl, Nat.le_of_ble_eq_true rfl⟩ (Nat.le_of_ble_eq_true rfl) rfl dX6_digest_18 rfl (det_l ?_)
        refine v_lstore_n X (Nat.le_of_ble_eq_true rfl) rfl dX6_digest_21 ?_
        refine v_iinc' X rfl rfl (nI_inc _) dX6_digest_22 ?_
        refine v_goto (tgt := 6) X dX6_digest_25 (by decide) ?_
        exact v_Ln (ihn1 (a + 1) ⟨by omega, by omega⟩) ⟨Or.inr rfl, Or.inr rfl, Or.inl rfl, Or.inr rfl, trivial⟩
  exact v_Ln (lp6 (19 + 1) 0 ⟨by omega, by omega⟩) ⟨Or.inr rfl, Or.inr rfl, Or.inl rfl, Or.inr rfl, trivial⟩
