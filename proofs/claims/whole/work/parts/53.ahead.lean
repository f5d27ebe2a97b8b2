/-! looking ahead -/
theorem VS.setq {M : Nat → Int32} {cn q q2 : Nat} {B : Int} (h : VS M cn q B) (hq : OQ M q2) : VS M cn q2 B := ⟨h.1, hq, h.2.2⟩
theorem TE.symm {A M : Nat → Int32} (h : TE A M) : TE M A := fun i a b c => (h i a b c).symm
/-- the state 1 is n seconds ahead -/
def AH (γ : Gm) (W W3 : Wd) (M A : Nat → Int32) (cn tm n qn : Nat) : Prop := (∀ b, b ≠ 1 → W3.1 b = W.1 b) ∧ (∀ j, j ≠ 1 → W3.2.1 j = W.2.1 j) ∧ Ext W W3 ∧ LF γ W3 1 168 qn A ∧ VS (s_secs M n) cn qn (3600 * tm + 3600 * n) ∧ TE A (s_secs M n)
theorem AH.ci {γ : Gm} {W W3 : Wd} {c : Nat} {M A N P T : Nat → Int32} {u t cn q tm n qn : Nat} (h : AH γ W W3 M A cn tm n qn) (hI : CI γ W c M P T u t cn q tm) : CI γ (wset W3 1 N) c M P T u t cn q tm ∧ RB W (wset W3 1 N) := by
  obtain ⟨a1, a2, a3, a4, a5, a6⟩ := h
  have hb : ∀ b, b ≠ 1 → (wset W3 1 N).1 b = W.1 b := fun b hb => (ws_ne _ _ hb).trans (a1 b hb)
  have hE : Ext W (wset W3 1 N) := a3.trans (Ext.ws _ _ _)
  refine ⟨hI.gen (Nat.le_refl _) hE (fun b _ h1 _ => hb b h1) (fun j _ h1 => a2 j h1) (a4.lq.ext (Ext.ws _ _ _) rfl) (hI.2.2.2.2.1.ext hE (a2 8 (by decide))) (hI.2.2.2.2.2.2.1.fr (hb 8 (by decide))), fun b hb2 => hb b (by omega)⟩
theorem ah_start {γ : Gm} {W W2 : Wd} {c : Nat} {M P T : Nat → Int32} {u t cn q tm : Nat} (hI : CI γ W c M P T u t cn q tm) (hA : W2.1 = (wset W 1 M).1) (hLs : ∀ c, c ≠ 1 → W2.2.1 c = W.2.1 c) (hE : Ext W W2) (hF : LF γ W2 1 168 q M) : AH γ W W2 M M cn tm 0 q := ⟨fun b hb => by rw [hA]; exact ws_ne _ _ hb, hLs, hE, hF, by have h9 := hI.2.1.1; exact h9.mono (by omega), fun _ _ _ _ => rfl⟩
theorem ah_step {γ : Gm} {W W3 : Wd} {M A : Nat → Int32} {cn tm n qn q2 : Nat} {v2 : LVt} (h : AH γ W W3 M A cn tm n qn) (hB : 3600 * (tm : Int) + 3600 * n + 3600 < 1000000000) (A' : Nat → Int32) (ht : TE A' (q_second (s_secs M n))) (hQ : OQ A' q2) (hF : LF γ (wl W3 1 v2) 1 168 q2 A') : AH γ W (wl W3 1 v2) M A' cn tm (n + 1) q2 := by
  obtain ⟨a1, a2, a3, a4, a5, a6⟩ := h
  obtain ⟨q', -, hv⟩ := VS_second a5 hB
  have e : 3600 * (tm : Int) + 3600 * n + 3600 = 3600 * (tm : Int) + 3600 * ((n + 1 : Nat) : Int) := by omega
  rw [e] at hv
  exact ⟨a1, fun j hj => (wl_ne _ _ hj).trans (a2 j hj), a3.trans (Ext.wl _ _ _), hF, VS.setq hv (TE.oq (TE.symm ht) hQ), ht⟩
theorem inW_te {A M : Nat → Int32} (h : TE A M) : ∀ n, n ≤ 6 → s_inW A n = s_inW M n
  | 0, _ => rfl
  | n + 1, hn => by
    show s_inW A n + A (120 + 8 * n + 0) = s_inW M n + M (120 + 8 * n + 0)
    rw [inW_te h n (by omega), h _ (by omega) (by omega) (by omega : 120 + 8 * n + 0 ≠ 226)]
theorem inW_nn {M : Nat → Int32} (h : LD M) : ∀ n, n ≤ 6 → 0 ≤ (s_inW M n).toInt ∧ (s_inW M n).toInt ≤ 200 * n
  | 0, _ => by
    have e : (s_inW M 0).toInt = 0 := i_nI (by decide)
    rw [e]; exact ⟨by omega, by omega⟩
  | n + 1, hn => by
    have h1 := inW_nn h n (by omega)
    have h2 := h n (by omega)
    have e : (s_inW M n + M (120 + 8 * n)).toInt = _ := i_add (by omega) (by omega)
    show 0 ≤ (s_inW M n + M (120 + 8 * n)).toInt ∧ (s_inW M n + M (120 + 8 * n)).toInt ≤ 200 * ((n + 1 : Nat) : Int)
    rw [e]; omega
/-- the search for the second at which the wagons are empty -/
def EM (M : Nat → Int32) (cn i : Nat) : Prop := (i ≤ 400 ∧ s_empF cn (400 - i) i (s_secs M i) = s_empF cn 400 0 M) ∨ (i = 401 ∧ s_emp M cn = (-1001))
theorem EM_0 {M : Nat → Int32} {cn i : Nat} (h : EM M cn i) (hi : i ≤ 400) (h0 : s_inW (s_secs M i) cn = 0) : nI i = s_emp M cn := by
  rcases h with ⟨-, h⟩ | ⟨h, -⟩
  · have e : s_empF cn 400 0 M = (i, s_secs M i) := by
      rw [← h]
      cases 400 - i with
      | zero => rfl
      | succ f => exact if_pos (by rw [h0]; exact Int32.le_refl 0)
    unfold s_emp
    rw [e, if_pos h0]
  · omega
theorem EM_s {M : Nat → Int32} {cn i : Nat} (h : EM M cn i) (hi : i ≤ 400) (h6 : cn ≤ 6) (hl : LD (s_secs M i)) (h0 : ¬ s_inW (s_secs M i) cn = 0) : EM M cn (i + 1) := by
  rcases h with ⟨-, h⟩ | ⟨h, -⟩
  · by_cases e : i = 400
    · subst e
      refine Or.inr ⟨rfl, ?_⟩
      unfold s_emp
      rw [← h]
      exact if_neg h0
    · refine Or.inl ⟨by omega, ?_⟩
      rw [← h, show 400 - i = (400 - (i + 1)) + 1 by omega]
      have h9 := inW_nn hl cn h6
      have hn : ¬ s_inW (s_secs M i) cn ≤ 0 := fun z => by
        rw [i_le, i_0] at z
        rw [i_eq, i_0] at h0
        omega
      exact (if_neg hn).symm
  · omega
theorem EM_x {M : Nat → Int32} {cn i : Nat} (h : EM M cn i) (hi : 400 < i) : (-1001) = s_emp M cn := by
  rcases h with ⟨h, -⟩ | ⟨-, h⟩
  · omega
  · exact h.symm
set_option maxHeartbeats 4000000 in
set_option maxRecDepth 100000 in
theorem c_X6_lookAhead (l : Launch) (γ : Gm) (W : Wd) (nc : Nat) (M P T : Nat → Int32) (u t cn q tm : Nat) (hI : CI γ W nc M P T u t cn q tm) (n : Nat) (hn : n ≤ 200) : Cr l γ yX6_lookAhead cX6_lookAhead 3 none 9 214 12 180 [.ref γ.1, .int (nI n)] (rdw γ W) (fun v h' => v = none ∧ ∃ (W3 : Wd) (qn : Nat), h' = rdw γ (wset W3 1 (s_secs M n)) ∧ AH γ W W3 M (s_secs M n) cn tm n qn) := by
  refine Cr_of [some (.ref γ.1), some (.int (nI n)), none] (by decide +kernel) (Nat.le_of_ble_eq_true rfl) rfl ?_
  intro p e s m args below meth c X
  refine v_q0 (fun Q0 hQ0 => ?_)
  have hI0 := hI
  obtain ⟨hM, hV, hF, hL1, hL8, hH, hX, hN⟩ := hI0
  obtain ⟨hVS, hT, hT9⟩ := hV
  obtain ⟨⟨hc, h1, h6⟩, hOQ, hTP, hHB, hSR⟩ := hVS
  have h10 := hOQ.2.1
  have hB9 : 3600 * (tm : Int) < 1000000000 := by omega
  refine v_aload_n X rfl dX6_lookAhead_0 ?_
  refine v_getf X fd_X6_23 (rd_BT γ _) rfl dX6_lookAhead_1 ?_
  refine v_aload_n X rfl dX6_lookAhead_4 ?_
  refine v_getf X fd_X6_19 (rd_BT γ _) rfl dX6_lookAhead_5 ?_
  refine v_eqh (congrArg (rdw γ) (wset_self W 1).symm) ?_
  refine v_callV (ci := 3) X mv_X6_217 (c_X2_copyFrom l γ W 1 0 (W.1 1) (by decide) (by decide) (by decide) q h10 hL1 (by rw [hM]; exact hF) hN) rfl rfl (rd_State γ _ _ (by decide)) rfl ⟨Nat.le_of_ble_eq_true rfl, Nat.le_of_ble_eq_true rfl, Nat.le_of_ble_eq_true rfl, Nat.le_of_ble_eq_true rfl⟩ (Nat.le_of_ble_eq_true rfl) rfl dX6_lookAhead_8 rfl (nd_v (fun h9 hp9 => ?_))
  obtain ⟨W2, rfl, hA, hLs, hE, hF2⟩ := hp9
  rw [hM] at hA hF2
  refine v_eqh (h' := rdw γ (wset W2 1 M)) (by rw [show M = W2.1 1 from by rw [hA]; exact (ws_same _ _ _).symm, wset_self]) ?_
  have hS := ah_start hI hA hLs hE hF2
  refine v_iconst' X kc_0 dX6_lookAhead_11 ?_
  refine v_istore_n X (Nat.le_of_ble_eq_true rfl) rfl dX6_lookAhead_12 ?_
  have lp13 : ∀ (n9 : Nat) (i : Nat) (W3 : Wd) (qi : Nat), i ≤ n ∧ n + 1 ≤ i + n9 → AH γ W W3 M (s_secs M i) cn tm i qi → V p l e { frames := 9, cells := 12, slots := 180, locals := 214 } s m args below meth c γ Q0 (rdw γ (wset W3 1 (s_secs M i))) (0 + 12) (0 + 180) 13 [some (.ref γ.1), some (.int (nI n)), some (.int (nI i))] [] := by
    intro n9
    induction n9 with
    | zero =>
      intro i W3 qi hbd
      exact absurd hbd (by omega)
    | succ n9 ih =>
      intro i W3 qi hbd hA3
      refine v_iload_n X rfl dX6_lookAhead_13 ?_
      refine v_iload_n X rfl dX6_lookAhead_14 ?_
      refine v_icmp_ge_n (tgt := 31) X dX6_lookAhead_15 (by decide) (by omega) (by omega) (fun c_1 => ?_) (fun c_1 => ?_)
      · obtain rfl : i = n := by omega
        subst hQ0
        exact v_vret X rfl (Nat.le_of_ble_eq_true rfl) (Nat.le_of_ble_eq_true rfl) dX6_lookAhead_31 ⟨rfl, W3, qi, rfl, hA3⟩
      · refine v_aload_n X rfl dX6_lookAhead_18 ?_
        refine v_getf X fd_X6_23 (rd_BT γ _) rfl dX6_lookAhead_19 ?_
        refine v_callV (ci := 3) X mv_X6_133 (c_X2_passSecond l γ W3 (s_secs M i) 1 (by decide) cn qi _ hA3.2.2.2.2.1 (by omega) hA3.2.2.2.1) rfl rfl (rd_State γ _ _ (by decide)) rfl ⟨Nat.le_of_ble_eq_true rfl, Nat.le_of_ble_eq_true rfl, Nat.le_of_ble_eq_true rfl, Nat.le_of_ble_eq_true rfl⟩ (Nat.le_of_ble_eq_true rfl) rfl dX6_lookAhead_22 rfl (nd_v (fun h9 hp9 => ?_))
        obtain ⟨v2, q2, rfl, hq2, hQ2, hF3⟩ := hp9
        have hA4 := ah_step hA3 (by omega) (q_second (s_secs M i)) (fun _ _ _ _ => rfl) hQ2 hF3
        refine v_iinc' X rfl rfl (nI_inc _) dX6_lookAhead_25 ?_
        refine v_goto (tgt := 13) X dX6_lookAhead_28 (by decide) ?_
        exact (ih (i + 1) _ _ ⟨by omega, by omega⟩ hA4)
  exact (lp13 (n + 1) 0 _ _ ⟨by omega, by omega⟩ hS)
set_option maxHeartbeats 4000000 in
set_option maxRecDepth 100000 in
theorem c_X6_foretold (l : Launch) (γ : Gm) (W : Wd) (N : Nat → Int32) (hN1 : W.1 1 = N) (cn qn : Nat) (B : Int) (hv : VS N cn qn B) (hB : B < 1000000000) (hL : LF γ W 1 168 qn N) (j : Nat) (hj : j ≤ 6) : Cr l γ yX6_foretold cX6_foretold 2 (some .int) 2 50 0 0 [.ref γ.1, .int (nI j)] (rdw γ W) (Det (some (.int (s_partN N cn j))) (rdw γ W)) := by
  refine Cr_of [some (.ref γ.1), some (.int (nI j))] (by decide +kernel) (Nat.le_of_ble_eq_true rfl) rfl ?_
  intro p e s m args below meth c X
  refine v_q0 (fun Q0 hQ0 => ?_)
  have hw : rdw γ W = rdw γ (wset W 1 N) := by rw [← hN1, wset_self]
  refine v_eqh hw ?_
  obtain ⟨⟨hc, h1, h6⟩, hOQ, hTP, hHB, hSR⟩ := hv
  obtain ⟨row, hLB, hLR⟩ := hL
  refine v_iload_n X rfl dX6_foretold_0 ?_
  rcases (by omega : j = 0 ∨ j = 1 ∨ j = 2 ∨ j = 3 ∨ j = 4 ∨ j = 5 ∨ j = 6) with rfl | rfl | rfl | rfl | rfl | rfl | rfl
  · refine v_tableIn (tgt := 44) (off := 43) X dX6_foretold_1 (by decide) (by decide) (by decide) (by decide) ?_
    refine v_aload_n X rfl dX6_foretold_44 ?_
    refine v_getf X fd_X6_23 (rd_BT γ _) rfl dX6_foretold_45 ?_
    refine v_getf X fd_X6_65 (rd_State γ _ _ (by decide)) rfl dX6_foretold_48 ?_
    refine v_getf X (v := .int (N 219)) fd_X6_136 (rd_Train γ _ _ (by decide)) rfl dX6_foretold_51 ?_
    subst hQ0
    exact v_iret X rfl (Nat.le_of_ble_eq_true rfl) (Nat.le_of_ble_eq_true rfl) dX6_foretold_54 ⟨rfl, hw.symm⟩
  · refine v_tableIn (tgt := 55) (off := 54) X dX6_foretold_1 (by decide) (by decide) (by decide) (by decide) ?_
    refine v_aload_n X rfl dX6_foretold_55 ?_
    refine v_getf X fd_X6_23 (rd_BT γ _) rfl dX6_foretold_56 ?_
    refine v_getf X fd_X6_65 (rd_State γ _ _ (by decide)) rfl dX6_foretold_59 ?_
    refine v_callV (ci := 6) X mv_X6_69 (c_X5_units l γ W N 1 (by decide) cn h6 hTP.2.2) rfl rfl (rd_Train γ _ _ (by decide)) rfl ⟨Nat.le_of_ble_eq_true rfl, Nat.le_of_ble_eq_true rfl, Nat.le_of_ble_eq_true rfl, Nat.le_of_ble_eq_true rfl⟩ (Nat.le_of_ble_eq_true rfl) rfl dX6_foretold_62 rfl (det_i ?_)
    subst hQ0
    exact v_iret X rfl (Nat.le_of_ble_eq_true rfl) (Nat.le_of_ble_eq_true rfl) dX6_foretold_65 ⟨rfl, hw.symm⟩
  · refine v_tableIn (tgt := 66) (off := 65) X dX6_foretold_1 (by decide) (by decide) (by decide) (by decide) ?_
    refine v_aload_n X rfl dX6_foretold_66 ?_
    refine v_getf X fd_X6_23 (rd_BT γ _) rfl dX6_foretold_67 ?_
    refine v_getf X fd_X6_144 (rd_State γ _ _ (by decide)) rfl dX6_foretold_70 ?_
    refine v_callV (ci := 5) X mv_X6_229 (c_X4_units l γ W N 1 (by decide)) rfl rfl (rd_Track γ _ _ (by decide)) rfl ⟨Nat.le_of_ble_eq_true rfl, Nat.le_of_ble_eq_true rfl, Nat.le_of_ble_eq_true rfl, Nat.le_of_ble_eq_true rfl⟩ (Nat.le_of_ble_eq_true rfl) rfl dX6_foretold_73 rfl (det_i ?_)
    subst hQ0
    exact v_iret X rfl (Nat.le_of_ble_eq_true rfl) (Nat.le_of_ble_eq_true rfl) dX6_foretold_76 ⟨rfl, hw.symm⟩
  · refine v_tableIn (tgt := 77) (off := 76) X dX6_foretold_1 (by decide) (by decide) (by decide) (by decide) ?_
    refine v_aload_n X rfl dX6_foretold_77 ?_
    refine v_getf X fd_X6_23 (rd_BT γ _) rfl dX6_foretold_78 ?_
    refine v_getf X (v := .int (N 226)) fd_X6_230 (rd_State γ _ _ (by decide)) rfl dX6_foretold_81 ?_
    subst hQ0
    exact v_iret X rfl (Nat.le_of_ble_eq_true rfl) (Nat.le_of_ble_eq_true rfl) dX6_foretold_84 ⟨rfl, hw.symm⟩
  · refine v_tableIn (tgt := 85) (off := 84) X dX6_foretold_1 (by decide) (by decide) (by decide) (by decide) ?_
    refine v_aload_n X rfl dX6_foretold_85 ?_
    refine v_getf X fd_X6_23 (rd_BT γ _) rfl dX6_foretold_86 ?_
    refine v_getf X (v := .int (N 224)) fd_X6_226 (rd_State γ _ _ (by decide)) rfl dX6_foretold_89 ?_
    subst hQ0
    exact v_iret X rfl (Nat.le_of_ble_eq_true rfl) (Nat.le_of_ble_eq_true rfl) dX6_foretold_92 ⟨rfl, hw.symm⟩
  · refine v_tableIn (tgt := 93) (off := 92) X dX6_foretold_1 (by decide) (by decide) (by decide) (by decide) ?_
    refine v_aload_n X rfl dX6_foretold_93 ?_
    refine v_getf X fd_X6_23 (rd_BT γ _) rfl dX6_foretold_94 ?_
    refine v_getf X fd_X6_144 (rd_State γ _ _ (by decide)) rfl dX6_foretold_97 ?_
    refine v_aload_n X rfl dX6_foretold_100 ?_
    refine v_getf X fd_X6_23 (rd_BT γ _) rfl dX6_foretold_101 ?_
    refine v_getf X fd_X6_62 (rd_State γ _ _ (by decide)) rfl dX6_foretold_104 ?_
    refine v_iconst' X kc_4 dX6_foretold_107 ?_
    refine v_iald' X (v := (N (228 + (4)))) (rd_Settings γ _ _ (by decide)) (4) rfl (by omega) (by decide) (vw_at (by omega)) dX6_foretold_108 ?_
    refine v_callV (ci := 5) X mv_X6_198 (c_X4_unitsBelow l γ W N 1 (by decide) _ hHB hB (SR_4 hSR).1 (SR_4 hSR).2) rfl rfl (rd_Track γ _ _ (by decide)) rfl ⟨Nat.le_of_ble_eq_true rfl, Nat.le_of_ble_eq_true rfl, Nat.le_of_ble_eq_true rfl, Nat.le_of_ble_eq_true rfl⟩ (Nat.le_of_ble_eq_true rfl) rfl dX6_foretold_109 rfl (det_i ?_)
    subst hQ0
    exact v_iret X rfl (Nat.le_of_ble_eq_true rfl) (Nat.le_of_ble_eq_true rfl) dX6_foretold_112 ⟨rfl, hw.symm⟩
  · refine v_tableIn (tgt := 113) (off := 112) X dX6_foretold_1 (by decide) (by decide) (by decide) (by decide) ?_
    refine v_aload_n X rfl dX6_foretold_113 ?_
    refine v_getf X fd_X6_23 (rd_BT γ _) rfl dX6_foretold_114 ?_
    refine v_getf X fd_X6_112 (rd_State γ _ _ (by decide)) rfl dX6_foretold_117 ?_
    refine v_callV (ci := 0) X mv_X6_116 (k_size l γ (wset W 1 N) 1 qn row (by decide) _ rfl hLB) rfl rfl (rd_SList γ (k := 1) _ (by decide)) rfl ⟨Nat.le_of_ble_eq_true rfl, Nat.le_of_ble_eq_true rfl, Nat.le_of_ble_eq_true rfl, Nat.le_of_ble_eq_true rfl⟩ (Nat.le_of_ble_eq_true rfl) rfl dX6_foretold_120 rfl (det_i ?_)
    rw [← hOQ.1]
    subst hQ0
    exact v_iret X rfl (Nat.le_of_ble_eq_true rfl) (Nat.le_of_ble_eq_true rfl) dX6_foretold_123 ⟨rfl, hw.symm⟩
set_option maxHeartbeats 4000000 in
set_option maxRecDepth 100000 in
theorem c_X6_foretell (l : Launch) (γ : Gm) (W : Wd) (nc : Nat) (M P T : Nat → Int32) (u t cn q tm : Nat) (hI : CI γ W nc M P T u t cn q tm) (x z : Int32) : Cr l γ yX6_foretell cX6_foretell 3 (some .int) 10 236 12 180 [.ref γ.1, .int x, .int z] (rdw γ W) (fun v h' => v = some (.int (s_fore M cn x z)) ∧ ∃ W' : Wd, h' = rdw γ W' ∧ CI γ W' nc M P T u t cn q tm ∧ RB W W') := by
  refine Cr_of [some (.ref γ.1), some (.int x), some (.int z)] (by decide +kernel) (Nat.le_of_ble_eq_true rfl) rfl ?_
  intro p e s m args below meth c X
  refine v_q0 (fun Q0 hQ0 => ?_)
  have hI0 := hI
  obtain ⟨hM, hV, hF, hL1, hL8, hH, hX, hN⟩ := hI0
  obtain ⟨hVS, hT, hT9⟩ := hV
  obtain ⟨⟨hc, h1, h6⟩, hOQ, hTP, hHB, hSR⟩ := hVS
  have h10 := hOQ.2.1
  have hB9 : 3600 * (tm : Int) < 1000000000 := by omega
  refine v_iload_n X rfl dX6_foretell_0 ?_
  refine v_iconst' X kc_1 dX6_foretell_1 ?_
  refine v_sipush' X ks_200 dX6_foretell_2 ?_
  refine v_callS X ms_X6_33 (c_X6_isWithin l γ _ _ _ _) rfl ⟨Nat.le_of_ble_eq_true rfl, Nat.le_of_ble_eq_true rfl, Nat.le_of_ble_eq_true rfl, Nat.le_of_ble_eq_true rfl⟩ (Nat.le_of_ble_eq_true rfl) rfl dX6_foretell_5 rfl (det_i ?_)
  refine v_if_eq_b (tgt := 21) X dX6_foretell_8 (by decide) (fun q1 => ?_) (fun q1 => ?_)
  · have ev : (-1002) = s_fore M cn x z := (if_neg q1).symm
    have eC := hI
    have eR := RB.refl W
    refine v_sipush' X ks_m1002 dX6_foretell_21 ?_
    subst hQ0
    exact v_iret X rfl (Nat.le_of_ble_eq_true rfl) (Nat.le_of_ble_eq_true rfl) dX6_foretell_24 ⟨so_some ev, _, rfl, eC, eR⟩
  · obtain ⟨n, hn1, hn2, rfl⟩ := in_nat1 (by decide) (by decide) q1
    refine v_iload_n X rfl dX6_foretell_11 ?_
    refine v_iconst' X kc_0 dX6_foretell_12 ?_
    refine v_bipush' X kb_6 dX6_foretell_13 ?_
    refine v_callS X ms_X6_33 (c_X6_isWithin l γ _ _ _ _) rfl ⟨Nat.le_of_ble_eq_true rfl, Nat.le_of_ble_eq_true rfl, Nat.le_of_ble_eq_true rfl, Nat.le_of_ble_eq_true rfl⟩ (Nat.le_of_ble_eq_true rfl) rfl dX6_foretell_15 rfl (det_i ?_)
    refine v_if_ne_b (tgt := 25) X dX6_foretell_18 (by decide) (fun q2 => ?_) (fun q2 => ?_)
    · obtain ⟨j, hj, rfl⟩ := in_nat (by decide) q2
      refine v_aload_n X rfl dX6_foretell_25 ?_
      refine v_iload_n X rfl dX6_foretell_26 ?_
      refine v_callV (ci := 7) X mv_X6_211 (c_X6_lookAhead l γ W nc M P T u t cn q tm hI n hn2) rfl rfl (rd_BT γ _) rfl ⟨Nat.le_of_ble_eq_true rfl, Nat.le_of_ble_eq_true rfl, Nat.le_of_ble_eq_true rfl, Nat.le_of_ble_eq_true rfl⟩ (Nat.le_of_ble_eq_true rfl) rfl dX6_foretell_27 rfl (nd_v (fun h9 hp9 => ?_))
      obtain ⟨W3, qn, rfl, hA⟩ := hp9
      refine v_aload_n X rfl dX6_foretell_30 ?_
      refine v_iload_n X rfl dX6_foretell_31 ?_
      refine v_callV (ci := 7) X mv_X6_214 (c_X6_foretold l γ (wset W3 1 (s_secs M n)) (s_secs M n) (ws_same _ _ _) cn qn _ hA.2.2.2.2.1 (by omega) (hA.2.2.2.1.ext (Ext.ws _ _ _) rfl) j hj) rfl rfl (rd_BT γ _) rfl ⟨Nat.le_of_ble_eq_true rfl, Nat.le_of_ble_eq_true rfl, Nat.le_of_ble_eq_true rfl, Nat.le_of_ble_eq_true rfl⟩ (Nat.le_of_ble_eq_true rfl) rfl dX6_foretell_32 rfl (det_i ?_)
      have ev : s_partN (s_secs M n) cn j = s_fore M cn (nI n) (nI j) := by unfold s_fore; rw [if_pos q1, if_pos q2, nI_clamp (by omega), nI_clamp (by omega)]
      obtain ⟨eC, eR⟩ := hA.ci (N := s_secs M n) hI
      subst hQ0
      exact v_iret X rfl (Nat.le_of_ble_eq_true rfl) (Nat.le_of_ble_eq_true rfl) dX6_foretell_35 ⟨so_some ev, _, rfl, eC, eR⟩
    · have ev : (-1002) = s_fore M cn (nI n) z := by unfold s_fore; rw [if_pos q1]; exact (if_neg q2).symm
      have eC := hI
      have eR := RB.refl W
      refine v_sipush' X ks_m1002 dX6_foretell_21 ?_
      subst hQ0
      exact v_iret X rfl (Nat.le_of_ble_eq_true rfl) (Nat.le_of_ble_eq_true rfl) dX6_foretell_24 ⟨so_some ev, _, rfl, eC, eR⟩
set_option maxHeartbeats 4000000 in
set_option maxRecDepth 100000 in
theorem c_X6_emptyAfter (l : Launch) (γ : Gm) (W : Wd) (nc : Nat) (M P T : Nat → Int32) (u t cn q tm : Nat) (hI : CI γ W nc M P T u t cn q tm) : Cr l γ yX6_emptyAfter cX6_emptyAfter 2 (some .int) 9 214 12 180 [.ref γ.1] (rdw γ W) (fun v h' => v = some (.int (s_emp M cn)) ∧ ∃ W' : Wd, h' = rdw γ W' ∧ CI γ W' nc M P T u t cn q tm ∧ RB W W') := by
  refine Cr_of [some (.ref γ.1), none] (by decide +kernel) (Nat.le_of_ble_eq_true rfl) rfl ?_
  intro p e s m args below meth c X
  refine v_q0 (fun Q0 hQ0 => ?_)
  have hI0 := hI
  obtain ⟨hM, hV, hF, hL1, hL8, hH, hX, hN⟩ := hI0
  obtain ⟨hVS, hT, hT9⟩ := hV
  obtain ⟨⟨hc, h1, h6⟩, hOQ, hTP, hHB, hSR⟩ := hVS
  have h10 := hOQ.2.1
  have hB9 : 3600 * (tm : Int) < 1000000000 := by omega
  refine v_aload_n X rfl dX6_emptyAfter_0 ?_
  refine v_getf X fd_X6_23 (rd_BT γ _) rfl dX6_emptyAfter_1 ?_
  refine v_aload_n X rfl dX6_emptyAfter_4 ?_
  refine v_getf X fd_X6_19 (rd_BT γ _) rfl dX6_emptyAfter_5 ?_
  refine v_eqh (congrArg (rdw γ) (wset_self W 1).symm) ?_
  refine v_callV (ci := 3) X mv_X6_217 (c_X2_copyFrom l γ W 1 0 (W.1 1) (by decide) (by decide) (by decide) q h10 hL1 (by rw [hM]; exact hF) hN) rfl rfl (rd_State γ _ _ (by decide)) rfl ⟨Nat.le_of_ble_eq_true rfl, Nat.le_of_ble_eq_true rfl, Nat.le_of_ble_eq_true rfl, Nat.le_of_ble_eq_true rfl⟩ (Nat.le_of_ble_eq_true rfl) rfl dX6_emptyAfter_8 rfl (nd_v (fun h9 hp9 => ?_))
  obtain ⟨W2, rfl, hA, hLs, hE, hF2⟩ := hp9
  rw [hM] at hA hF2
  refine v_eqh (h' := rdw γ (wset W2 1 M)) (by rw [show M = W2.1 1 from by rw [hA]; exact (ws_same _ _ _).symm, wset_self]) ?_
  have hS := ah_start hI hA hLs hE hF2
  refine v_iconst' X kc_0 dX6_emptyAfter_11 ?_
  refine v_istore_n X (Nat.le_of_ble_eq_true rfl) rfl dX6_emptyAfter_12 ?_
  have lp13 : ∀ (n9 : Nat) (i : Nat) (W3 : Wd) (A : Nat → Int32) (qi : Nat), i ≤ 401 ∧ 402 ≤ i + n9 → AH γ W W3 M A cn tm i qi → EM M cn i → V p l e { frames := 9, cells := 12, slots := 180, locals := 214 } s m args below meth c γ Q0 (rdw γ (wset W3 1 A)) (0 + 12) (0 + 180) 13 [some (.ref γ.1), some (.int (nI i))] [] := by
    intro n9
    induction n9 with
    | zero =>
      intro i W3 A qi hbd
      exact absurd hbd (by omega)
    | succ n9 ih =>
      intro i W3 A qi hbd hA3 hEM
      refine v_iload_n X rfl dX6_emptyAfter_13 ?_
      refine v_sipush' X ks_400 dX6_emptyAfter_14 ?_
      refine v_icmp_gt_n (tgt := 48) X dX6_emptyAfter_17 (by decide) (by omega) (by omega) (fun q1 => ?_) (fun q1 => ?_)
      · have ev := EM_x hEM q1
        refine v_sipush' X ks_m1001 dX6_emptyAfter_48 ?_
        subst hQ0
        exact v_iret X rfl (Nat.le_of_ble_eq_true rfl) (Nat.le_of_ble_eq_true rfl) dX6_emptyAfter_51 ⟨so_some ev, _, rfl, hA3.ci hI⟩
      · have hT3 := hA3.2.2.2.2.2.tp hA3.2.2.2.2.1.2.2.1
        refine v_aload_n X rfl dX6_emptyAfter_20 ?_
        refine v_getf X fd_X6_23 (rd_BT γ _) rfl dX6_emptyAfter_21 ?_
        refine v_getf X fd_X6_65 (rd_State γ _ _ (by decide)) rfl dX6_emptyAfter_24 ?_
        refine v_callV (ci := 6) X mv_X6_69 (c_X5_units l γ W3 A 1 (by decide) cn h6 hT3.2.2) rfl rfl (rd_Train γ _ _ (by decide)) rfl ⟨Nat.le_of_ble_eq_true rfl, Nat.le_of_ble_eq_true rfl, Nat.le_of_ble_eq_true rfl, Nat.le_of_ble_eq_true rfl⟩ (Nat.le_of_ble_eq_true rfl) rfl dX6_emptyAfter_27 rfl (det_i ?_)
        rw [inW_te hA3.2.2.2.2.2 cn h6]
        refine v_if_ne (tgt := 35) X dX6_emptyAfter_30 (by decide) (fun q2 => ?_) (fun q2 => ?_)
        · have hE4 := EM_s hEM q1 h6 hA3.2.2.2.2.1.2.2.1.2.1 q2
          refine v_aload_n X rfl dX6_emptyAfter_35 ?_
          refine v_getf X fd_X6_23 (rd_BT γ _) rfl dX6_emptyAfter_36 ?_
          refine v_callV (ci := 3) X mv_X6_220 (c_X2_passSecondOfTrain l γ W3 A 1 (by decide) cn qi ((hA3.2.2.2.2.2 218 (by decide) (by decide) (by decide)).trans hA3.2.2.2.2.1.1.1) h1 h6 (hA3.2.2.2.2.2.oq hA3.2.2.2.2.1.2.1) hT3 hA3.2.2.2.1) rfl rfl (rd_State γ _ _ (by decide)) rfl ⟨Nat.le_of_ble_eq_true rfl, Nat.le_of_ble_eq_true rfl, Nat.le_of_ble_eq_true rfl, Nat.le_of_ble_eq_true rfl⟩ (Nat.le_of_ble_eq_true rfl) rfl dX6_emptyAfter_39 rfl (nd_v (fun h9 hp9 => ?_))
          obtain ⟨v2, q2, rfl, hq2, hQ2, hF3⟩ := hp9
          have hA4 := ah_step hA3 (by omega) (q_trn A cn qi) (TE_trn hA3.2.2.2.2.2 hA3.2.2.2.2.1) hQ2 hF3
          refine v_iinc' X rfl rfl (nI_inc _) dX6_emptyAfter_42 ?_
          refine v_goto (tgt := 13) X dX6_emptyAfter_45 (by decide) ?_
          exact (ih (i + 1) _ _ _ ⟨by omega, by omega⟩ hA4 hE4)
        · have ev := EM_0 hEM q1 q2
          refine v_iload_n X rfl dX6_emptyAfter_33 ?_
          subst hQ0
          exact v_iret X rfl (Nat.le_of_ble_eq_true rfl) (Nat.le_of_ble_eq_true rfl) dX6_emptyAfter_34 ⟨so_some ev, _, rfl, hA3.ci hI⟩
  exact (lp13 402 0 _ _ _ ⟨by omega, by omega⟩ hS (Or.inl ⟨by omega, rfl⟩))
