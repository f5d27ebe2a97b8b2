/-! the text's changes, orders, seconds, undoing -/
theorem can_ok {q j : Nat} (h10 : q ≤ 10) (hj : j < 2147483648) : (¬ nI j < nI 0 ∧ ¬ (nI q - nI 1) < nI j) ↔ j < q := by
  have e : (nI q - nI 1).toInt = _ := i_sub (by rw [i_nI (by omega), i_nI (by omega)]; omega) (by rw [i_nI (by omega), i_nI (by omega)]; omega)
  rw [i_lt, i_lt, e, i_nI (by omega), i_nI (by omega), i_nI (by omega), i_nI (by omega)]
  omega
theorem LR_drop {γ : Gm} {W W' : Wd} {q j : Nat} {row : Nat → Option Nat} {M : Nat → Int32} (h : LR γ W 168 q row M) (hE : Ext W W') (hj : j < q) (h10 : q ≤ 10) : LR γ W' 168 (q - 1) (c_rem row q j) (q_drop M (q - 1) j) := by
  intro t ht
  have ec : c_rem row q j t = if j ≤ t then row (t + 1) else row t := by
    unfold c_rem
    rw [va_up_ne _ _ (by omega)]
    simp only [va_cpy]
    by_cases z : j ≤ t
    · rw [if_pos ⟨z, by omega⟩, if_pos z, show j + 1 + (t - j) = t + 1 by omega]
    · rw [if_neg (fun y => z y.1), if_neg z]
  rw [ec]
  by_cases z : j ≤ t
  · rw [if_pos z]
    obtain ⟨a, b, c⟩ := h (t + 1) (by omega)
    exact ⟨a, b, (c.ext hE).congr fun y hy => by rw [q_drop_hi M (by omega) (by omega) (by omega), show 168 + 5 * t + y + 5 = 168 + 5 * (t + 1) + y by omega]⟩
  · rw [if_neg z]
    obtain ⟨a, b, c⟩ := h t (by omega)
    exact ⟨a, b, (c.ext hE).congr fun y hy => (q_drop_lo M (by omega) (by omega) (by omega)).symm⟩
theorem LF_add {γ : Gm} {W W3 W4 : Wd} {q g : Nat} {rowT row0 row4 : Nat → Option Nat} {M R : Nat → Int32} (hA : AA γ W3 W4 0 q g rowT row0 row4) (h0 : LR γ W3 168 q row0 M) (hT : LR γ W3 0 g rowT R) (h10 : q + g ≤ 10) : LF γ W4 0 168 (q + g) (q_add M R q g) := by
  obtain ⟨a1, a2, a3, a4, a5, a6⟩ := hA
  refine ⟨row4, a4, fun t ht => ?_⟩
  by_cases z : t < q
  · obtain ⟨a, b, c⟩ := h0 t z
    exact ⟨a, (a5 t z).trans b, (c.ext a3).congr fun y hy => (add_off (by omega) (by omega)).symm⟩
  · obtain ⟨a, b, c⟩ := hT (t - q) (by omega)
    have e := a6 (t - q) (by omega)
    rw [show q + (t - q) = t by omega] at e
    refine ⟨a, e.trans b, (c.ext a3).congr fun y hy => ?_⟩
    rw [add_at (by omega) (by omega) h10]
    congr 1
    omega
theorem BY7_ct {S : Nat → Int32} {n : Nat} (h60 : n ≤ 60) (h : BY7 S n) {S' : Nat → Int32} (he : ∀ i, i < n → S' i = S i) : BY7 S' n := fun j hj => by
  obtain ⟨c, a, b⟩ := h j hj
  exact ⟨c, a, (he j hj).trans b⟩
/-- behind a reading of the text -/
theorem CI.read {γ : Gm} {W W2 : Wd} {c : Nat} {M P T : Nat → Int32} {u t cn q tm : Nat} {p : Rd} {R0 : Nat → Int32} (h : CI γ W c M P T u t cn q tm) (h1 : W2.1 = (wset W 8 (ct (W.1 8) p)).1) (h2 : ∀ c, c ≠ 8 → W2.2.1 c = W.2.1 c) (hE : Ext W W2) (hR : RE γ W2 (W.1 8) t R0 p) : CI γ W2 c M P T u t cn q tm ∧ RB W W2 := by
  have hb : ∀ b, b ≠ 8 → W2.1 b = W.1 b := fun b hb => by rw [h1]; exact ws_ne _ _ hb
  have h8 : W2.1 8 = ct (W.1 8) p := by rw [h1]; exact ws_same _ _ _
  obtain ⟨x1, x2, x3, x4⟩ := h.2.2.2.2.2.2.1
  refine ⟨h.gen (Nat.le_refl _) hE (fun b _ _ h3 => hb b h3) (fun j h3 h4 => h2 j (by omega)) (h.2.2.2.1.ext hE (h2 1 (by decide))) ?_ ⟨?_, x2, fun i hi => ?_, ?_⟩, fun b h3 => hb b (by omega)⟩
  · rcases hR.2 with z | z
    · exact z.2.2.1.lq
    · exact z.2
  · rw [h8, ct_o _ _ (by decide) (by decide)]; exact x1
  · rw [h8, ct_o _ _ (by omega) (by omega)]; exact x3 i hi
  · rw [h8]; exact BY7_ct x2 x4 fun i hi => ct_o _ _ (by omega) (by omega)
set_option maxHeartbeats 4000000 in
set_option maxRecDepth 100000 in
theorem c_X3_append (l : Launch) (γ : Gm) (W : Wd) (n : Nat) (hn : W.1 8 60 = nI n) (h60 : n ≤ 60) (x : Int32) : Cr l γ yX3_append cX3_append 2 (some .boolean) 0 0 0 0 [.ref (γ.1 + 1), .int x] (rdw γ W) (Det (some (.int (bi (¬ n = 60)))) (rdw γ (if n = 60 then W else wset W 8 (upd (upd (W.1 8) n x) 60 (nI (n + 1)))))) := by
  refine Cr_of [some (.ref (γ.1 + 1)), some (.int x)] (by decide +kernel) (Nat.le_of_ble_eq_true rfl) rfl ?_
  intro p e s m args below meth c X
  refine v_q0 (fun Q0 hQ0 => ?_)
  refine v_aload_n X rfl dX3_append_0 ?_
  refine v_getf X (v := (.int (W.1 8 60))) fd_X3_15 (rd_Text γ _) rfl dX3_append_1 ?_
  rw [hn]
  refine v_if_lt_n (tgt := 19) X dX3_append_4 (by decide) (by omega) ?_
  refine v_aload_n X rfl dX3_append_7 ?_
  refine v_getf X (v := (.int (W.1 8 60))) fd_X3_15 (rd_Text γ _) rfl dX3_append_8 ?_
  rw [hn]
  refine v_aload_n X rfl dX3_append_11 ?_
  refine v_getf X fd_X3_9 (rd_Text γ _) rfl dX3_append_12 ?_
  refine v_alen (t0 := 0) X (rd_Bytes γ _) rfl dX3_append_15 ?_
  refine v_icmp_lt_n (tgt := 21) X dX3_append_16 (by decide) (by omega) (by omega) (fun q1 => ?_) (fun q1 => ?_)
  · refine v_aload_n X rfl dX3_append_21 ?_
    refine v_getf X fd_X3_9 (rd_Text γ _) rfl dX3_append_22 ?_
    refine v_aload_n X rfl dX3_append_25 ?_
    refine v_getf X (v := (.int (W.1 8 60))) fd_X3_15 (rd_Text γ _) rfl dX3_append_26 ?_
    rw [hn]
    refine v_iload_n X rfl dX3_append_29 ?_
    refine v_iast X (rd_Bytes γ _) n rfl (by omega) (by decide) dX3_append_30 ?_
    refine v_eqh (uq_Bytes γ _ (by omega) _) ?_
    refine v_aload_n X rfl dX3_append_31 ?_
    refine v_dup X rfl dX3_append_32 ?_
    refine v_getf X (v := (.int ((wset W 8 (upd (W.1 8) n x)).1 8 60))) fd_X3_15 (rd_Text γ _) rfl dX3_append_33 ?_
    rw [ws_same, pk_un (by omega), hn]
    refine v_iconst' X kc_1 dX3_append_36 ?_
    refine v_iadd' X (nI_add _ _) dX3_append_37 ?_
    refine v_putf X fp_X3_15 (rd_Text γ _) rfl rfl (Nat.le_of_ble_eq_true rfl) dX3_append_38 ?_
    refine v_eqh (uq_tlen γ _ _) ?_
    rw [ws_same, wset_wset]
    refine v_iconst' X kc_1 dX3_append_41 ?_
    subst hQ0
    exact v_zret X rfl rfl (Nat.le_of_ble_eq_true rfl) (Nat.le_of_ble_eq_true rfl) dX3_append_42 ⟨so_some (bi_t (by omega)), by rw [if_neg (by omega : ¬ n = 60)]⟩
  · refine v_iconst' X kc_0 dX3_append_19 ?_
    subst hQ0
    exact v_zret X rfl rfl (Nat.le_of_ble_eq_true rfl) (Nat.le_of_ble_eq_true rfl) dX3_append_20 ⟨so_some (bi_f (by omega)), by rw [if_pos (by omega : n = 60)]⟩
theorem typ_ci {γ : Gm} {W : Wd} {c : Nat} {M P T : Nat → Int32} {u t cn q tm : Nat} {x : Int32} (h : CI γ W c M P T u t cn q tm) (hx : ¬ x < nI 0 ∧ ¬ nI 127 < x) (ht : ¬ t = 60) : CI γ (wset W 8 (upd (upd (W.1 8) t x) 60 (nI (t + 1)))) c M P (upd T t x) u (t + 1) cn q tm := by
  obtain ⟨x1, x2, x3, x4⟩ := h.2.2.2.2.2.2.1
  have e : ∀ i, i < t + 1 → upd (upd (W.1 8) t x) 60 (nI (t + 1)) i = if i = t then x else W.1 8 i := fun i hi => by
    rw [pk_un (by omega)]
    by_cases z : i = t
    · rw [z, pk_us, if_pos rfl]
    · rw [pk_un z, if_neg z]
  refine h.gen (Nat.le_refl _) (Ext.ws _ _ _) (fun b _ _ h3 => ws_ne _ _ h3) (fun _ _ _ => rfl) (h.2.2.2.1.ext (Ext.ws _ _ _) rfl) (h.2.2.2.2.1.ext (Ext.ws _ _ _) rfl) ⟨?_, by omega, fun i hi => ?_, fun i hi => ?_⟩
  · rw [ws_same, pk_us]
  · rw [ws_same, pk_un (by omega)]
    by_cases z : i = t
    · rw [z, pk_us, pk_us]
    · rw [pk_un z, pk_un z]; exact x3 i hi
  · rw [ws_same, e i hi]
    by_cases z : i = t
    · rw [if_pos z]
      obtain ⟨c, h1, h2⟩ := in_nat (by decide) hx
      exact ⟨c, by omega, h2⟩
    · rw [if_neg z]; exact x4 i (by omega)
set_option maxHeartbeats 4000000 in
set_option maxRecDepth 100000 in
theorem c_X6_type (l : Launch) (γ : Gm) (W : Wd) (nc : Nat) (M P T : Nat → Int32) (u t cn q tm : Nat) (hI : CI γ W nc M P T u t cn q tm) (x : Int32) : Cr l γ yX6_type cX6_type 2 (some .int) 1 22 0 0 [.ref γ.1, .int x] (rdw γ W) (fun v h' => v = some (.int (if ¬ x < nI 0 ∧ ¬ nI 127 < x then (if t = 60 then (-1004) else nI (t + 1)) else (-1002))) ∧ ((((¬ x < nI 0 ∧ ¬ nI 127 < x) ∧ ¬ t = 60) ∧ ∃ W' : Wd, h' = rdw γ W' ∧ CI γ W' nc M P (upd T t x) u (t + 1) cn q tm ∧ RB W W') ∨ (¬ ((¬ x < nI 0 ∧ ¬ nI 127 < x) ∧ ¬ t = 60) ∧ h' = rdw γ W))) := by
  refine Cr_of [some (.ref γ.1), some (.int x)] (by decide +kernel) (Nat.le_of_ble_eq_true rfl) rfl ?_
  intro p e s m args below meth c X
  refine v_q0 (fun Q0 hQ0 => ?_)
  have hI0 := hI
  obtain ⟨hM, hV, hF, hL1, hL8, hH, hX, hN⟩ := hI0
  obtain ⟨hVS, hT, hT9⟩ := hV
  obtain ⟨⟨hc, h1, h6⟩, hOQ, hTP, hHB, hSR⟩ := hVS
  have h10 := hOQ.2.1
  have hB9 : 3600 * (tm : Int) < 1000000000 := by omega
  refine v_iload_n X rfl dX6_type_0 ?_
  refine v_iconst' X kc_0 dX6_type_1 ?_
  refine v_bipush' X kb_127 dX6_type_2 ?_
  refine v_callS X ms_X6_33 (c_X6_isWithin l γ _ _ _ _) rfl ⟨Nat.le_of_ble_eq_true rfl, Nat.le_of_ble_eq_true rfl, Nat.le_of_ble_eq_true rfl, Nat.le_of_ble_eq_true rfl⟩ (Nat.le_of_ble_eq_true rfl) rfl dX6_type_4 rfl (det_i ?_)
  refine v_if_ne_b (tgt := 14) X dX6_type_7 (by decide) (fun q1 => ?_) (fun q1 => ?_)
  · refine v_aload_n X rfl dX6_type_14 ?_
    refine v_getf X fd_X6_10 (rd_BT γ _) rfl dX6_type_15 ?_
    refine v_iload_n X rfl dX6_type_18 ?_
    refine v_callV (ci := 4) X mv_X6_37 (c_X3_append l γ W t hX.1 hX.2.1 x) rfl rfl (rd_Text γ _) rfl ⟨Nat.le_of_ble_eq_true rfl, Nat.le_of_ble_eq_true rfl, Nat.le_of_ble_eq_true rfl, Nat.le_of_ble_eq_true rfl⟩ (Nat.le_of_ble_eq_true rfl) rfl dX6_type_19 rfl (det_i ?_)
    refine v_if_eq_b (tgt := 35) X dX6_type_22 (by decide) (fun q2 => ?_) (fun q2 => ?_)
    · rw [if_pos (Decidable.not_not.mp q2)]
      refine v_sipush' X ks_m1004 dX6_type_35 ?_
      subst hQ0
      exact v_iret X rfl (Nat.le_of_ble_eq_true rfl) (Nat.le_of_ble_eq_true rfl) dX6_type_38 ⟨so_some (by rw [if_pos q1, if_pos (Decidable.not_not.mp q2)]), Or.inr ⟨fun z => q2 z.2, rfl⟩⟩
    · rw [if_neg q2]
      refine v_aload_n X rfl dX6_type_25 ?_
      refine v_getf X fd_X6_10 (rd_BT γ _) rfl dX6_type_26 ?_
      refine v_getf X (v := (.int ((wset W 8 (upd (upd (W.1 8) t x) 60 (nI (t + 1)))).1 8 60))) fd_X6_41 (rd_Text γ _) rfl dX6_type_29 ?_
      rw [ws_same, pk_us]
      refine v_goto (tgt := 38) X dX6_type_32 (by decide) ?_
      subst hQ0
      exact v_iret X rfl (Nat.le_of_ble_eq_true rfl) (Nat.le_of_ble_eq_true rfl) dX6_type_38 ⟨so_some (by rw [if_pos q1, if_neg q2]), Or.inl ⟨⟨q1, q2⟩, _, rfl, typ_ci hI q1 q2, fun b hb => ws_ne _ _ (by omega)⟩⟩
  · refine v_sipush' X ks_m1002 dX6_type_10 ?_
    subst hQ0
    exact v_iret X rfl (Nat.le_of_ble_eq_true rfl) (Nat.le_of_ble_eq_true rfl) dX6_type_13 ⟨so_some (if_neg q1).symm, Or.inr ⟨fun z => q1 z.1, rfl⟩⟩
set_option maxHeartbeats 4000000 in
set_option maxRecDepth 100000 in
theorem c_X6_clearText (l : Launch) (γ : Gm) (W : Wd) (nc : Nat) (M P T : Nat → Int32) (u t cn q tm : Nat) (hI : CI γ W nc M P T u t cn q tm) : Cr l γ yX6_clearText cX6_clearText 2 (some .int) 0 0 0 0 [.ref γ.1] (rdw γ W) (fun v h' => v = some (.int (nI t)) ∧ ∃ W' : Wd, h' = rdw γ W' ∧ CI γ W' nc M P T u 0 cn q tm ∧ RB W W') := by
  refine Cr_of [some (.ref γ.1), none] (by decide +kernel) (Nat.le_of_ble_eq_true rfl) rfl ?_
  intro p e s m args below meth c X
  refine v_q0 (fun Q0 hQ0 => ?_)
  have hI0 := hI
  obtain ⟨hM, hV, hF, hL1, hL8, hH, hX, hN⟩ := hI0
  obtain ⟨hVS, hT, hT9⟩ := hV
  obtain ⟨⟨hc, h1, h6⟩, hOQ, hTP, hHB, hSR⟩ := hVS
  have h10 := hOQ.2.1
  have hB9 : 3600 * (tm : Int) < 1000000000 := by omega
  refine v_aload_n X rfl dX6_clearText_0 ?_
  refine v_getf X fd_X6_10 (rd_BT γ _) rfl dX6_clearText_1 ?_
  refine v_getf X (v := (.int (W.1 8 60))) fd_X6_41 (rd_Text γ _) rfl dX6_clearText_4 ?_
  rw [hX.1]
  refine v_istore_n X (Nat.le_of_ble_eq_true rfl) rfl dX6_clearText_7 ?_
  refine v_aload_n X rfl dX6_clearText_8 ?_
  refine v_getf X fd_X6_10 (rd_BT γ _) rfl dX6_clearText_9 ?_
  refine v_iconst' X kc_0 dX6_clearText_12 ?_
  refine v_putf X fp_X6_41 (rd_Text γ _) rfl rfl (Nat.le_of_ble_eq_true rfl) dX6_clearText_13 ?_
  refine v_eqh (uq_tlen γ _ _) ?_
  refine v_iload_n X rfl dX6_clearText_16 ?_
  subst hQ0
  exact v_iret X rfl (Nat.le_of_ble_eq_true rfl) (Nat.le_of_ble_eq_true rfl) dX6_clearText_17 ⟨rfl, _, rfl, hI.gen (Nat.le_refl _) (Ext.ws _ _ _) (fun b _ _ h3 => ws_ne _ _ h3) (fun _ _ _ => rfl) (hL1.ext (Ext.ws _ _ _) rfl) (hL8.ext (Ext.ws _ _ _) rfl) ⟨(congrFun (ws_same _ _ _) 60).trans pk_us, by omega, fun i hi => (congrFun (ws_same _ _ _) i).trans ((pk_un (by omega)).trans (hX.2.2.1 i hi)), fun i hi => absurd hi (by omega)⟩, fun b hb => ws_ne _ _ (by omega)⟩
theorem sec_ci {γ : Gm} {W3 : Wd} {c : Nat} {N P T : Nat → Int32} {u t cn q tm q2 : Nat} {v2 : LVt} (h : CI γ (wset W3 0 N) c N P T u t cn q tm) (hQ : OQ (q_second N) q2) (hF : LF γ (wl W3 0 v2) 0 168 q2 (q_second N)) (ht : tm + 1 ≤ 9999) : CI γ (wset (wl W3 0 v2) 0 (q_second N)) c (q_second N) P T u t cn q2 (tm + 1) := by
  obtain ⟨q', -, hv⟩ := VT_pass h.2.1 1 ht
  have hv : VT (q_second N) cn q' (tm + 1) := hv
  exact h.upd0 (Ext.wl _ _ _) (ws_same _ _ _) (fun b _ hb => (ws_ne _ _ hb).trans (ws_ne _ _ hb).symm) (fun b _ hb => wl_ne _ _ hb) ⟨hv.1.setq hQ, hv.2⟩ hF
set_option maxHeartbeats 4000000 in
set_option maxRecDepth 100000 in
theorem c_X6_fault (l : Launch) (γ : Gm) (W : Wd) (nc : Nat) (M P T : Nat → Int32) (u t cn q tm : Nat) (hI : CI γ W nc M P T u t cn q tm) (R0 : Nat → Int32) : Cr l γ yX6_fault cX6_fault 1 (some .int) 10 228 26 260 [.ref γ.1] (rdw γ W) (fun v h' => v = some (.int (r_reads (W.1 8) t R0).1.2) ∧ ∃ W' : Wd, h' = rdw γ W' ∧ CI γ W' nc M P T u t cn q tm ∧ RB W W') := by
  refine Cr_of [some (.ref γ.1)] (by decide +kernel) (Nat.le_of_ble_eq_true rfl) rfl ?_
  intro p e s m args below meth c X
  refine v_q0 (fun Q0 hQ0 => ?_)
  have hI0 := hI
  obtain ⟨hM, hV, hF, hL1, hL8, hH, hX, hN⟩ := hI0
  obtain ⟨hVS, hT, hT9⟩ := hV
  obtain ⟨⟨hc, h1, h6⟩, hOQ, hTP, hHB, hSR⟩ := hVS
  have h10 := hOQ.2.1
  have hB9 : 3600 * (tm : Int) < 1000000000 := by omega
  refine v_aload_n X rfl dX6_fault_0 ?_
  refine v_getf X fd_X6_10 (rd_BT γ _) rfl dX6_fault_1 ?_
  refine v_callV (ci := 4) X mv_X6_45 (c_X3_read l γ W t hX.1 hX.2.1 hX.2.2.2 hL8 hN R0) rfl rfl (rd_Text γ _) rfl ⟨Nat.le_of_ble_eq_true rfl, Nat.le_of_ble_eq_true rfl, Nat.le_of_ble_eq_true rfl, Nat.le_of_ble_eq_true rfl⟩ (Nat.le_of_ble_eq_true rfl) rfl dX6_fault_4 rfl (nd_v (fun h9 hp9 => ?_))
  obtain ⟨W2, pp, rfl, hA1, hA2, hA3, hRE⟩ := hp9
  obtain ⟨hI2, hR2⟩ := hI.read hA1 hA2 hA3 hRE
  have e61 : W2.1 8 61 = (r_reads (W.1 8) t R0).1.2 := by rw [hA1, ws_same, ct_61]; exact hRE.1
  refine v_aload_n X rfl dX6_fault_7 ?_
  refine v_getf X fd_X6_10 (rd_BT γ _) rfl dX6_fault_8 ?_
  refine v_getf X (v := (.int (W2.1 8 61))) fd_X6_48 (rd_Text γ _) rfl dX6_fault_11 ?_
  rw [e61]
  subst hQ0
  exact v_iret X rfl (Nat.le_of_ble_eq_true rfl) (Nat.le_of_ble_eq_true rfl) dX6_fault_14 ⟨rfl, W2, rfl, hI2, hR2⟩
set_option maxHeartbeats 4000000 in
set_option maxRecDepth 100000 in
theorem c_X6_undo (l : Launch) (γ : Gm) (W : Wd) (nc : Nat) (M P T : Nat → Int32) (u t cn q tm : Nat) (hI : CI γ W nc M P T u t cn q tm) (hnc : nc < 600) : Cr l γ yX6_undo cX6_undo 1 (some .int) 10 235 12 180 [.ref γ.1] (rdw γ W) (fun v h' => v = some (.int (if u = 0 then (-1003) else nI (u - 1))) ∧ ((u = 0 ∧ h' = rdw γ W) ∨ (¬ u = 0 ∧ ∃ (W' : Wd) (cn2 q2 tm2 : Nat), h' = rdw γ W' ∧ CI γ W' nc (s_ld M P (233 * (u - 1)) 233) P T (u - 1) t cn2 q2 tm2 ∧ RB W W'))) := by
  refine Cr_of [some (.ref γ.1)] (by decide +kernel) (Nat.le_of_ble_eq_true rfl) rfl ?_
  intro p e s m args below meth c X
  refine v_q0 (fun Q0 hQ0 => ?_)
  have hI0 := hI
  obtain ⟨hM, hV, hF, hL1, hL8, hH, hX, hN⟩ := hI0
  obtain ⟨hVS, hT, hT9⟩ := hV
  obtain ⟨⟨hc, h1, h6⟩, hOQ, hTP, hHB, hSR⟩ := hVS
  have h10 := hOQ.2.1
  have hB9 : 3600 * (tm : Int) < 1000000000 := by omega
  obtain ⟨nx, hn1, hn2, hn3, hn4, hn5, -⟩ := hH
  refine v_aload_n X rfl dX6_undo_0 ?_
  refine v_getf X fd_X6_29 (rd_BT γ _) rfl dX6_undo_1 ?_
  refine v_getf X (v := (.int (W.1 9 1))) fd_X6_159 (rd_Hist γ _) rfl dX6_undo_4 ?_
  rw [hn2]
  refine v_if_ne_n (tgt := 14) X dX6_undo_7 (by decide) (by omega) (fun q1 => ?_) (fun q1 => ?_)
  · refine v_aload_n X rfl dX6_undo_14 ?_
    refine v_getf X fd_X6_29 (rd_BT γ _) rfl dX6_undo_15 ?_
    refine v_aload_n X rfl dX6_undo_18 ?_
    refine v_getf X fd_X6_19 (rd_BT γ _) rfl dX6_undo_19 ?_
    refine v_callV (ci := 1) X mv_X6_161 (k_restore l γ W nc M P T u t cn q tm hI hnc (by omega)) rfl rfl (rd_Hist γ _) rfl ⟨Nat.le_of_ble_eq_true rfl, Nat.le_of_ble_eq_true rfl, Nat.le_of_ble_eq_true rfl, Nat.le_of_ble_eq_true rfl⟩ (Nat.le_of_ble_eq_true rfl) rfl dX6_undo_22 rfl (nd_v (fun h9 hp9 => ?_))
    obtain ⟨W2, cn2, q2, tm2, rfl, hI3, hR3⟩ := hp9
    obtain ⟨nx2, -, hm2, -⟩ := hI3.2.2.2.2.2.1
    refine v_aload_n X rfl dX6_undo_25 ?_
    refine v_getf X fd_X6_29 (rd_BT γ _) rfl dX6_undo_26 ?_
    refine v_getf X (v := (.int (W2.1 9 1))) fd_X6_159 (rd_Hist γ _) rfl dX6_undo_29 ?_
    rw [hm2]
    subst hQ0
    exact v_iret X rfl (Nat.le_of_ble_eq_true rfl) (Nat.le_of_ble_eq_true rfl) dX6_undo_32 ⟨so_some (if_neg q1).symm, Or.inr ⟨q1, W2, cn2, q2, tm2, rfl, hI3, hR3⟩⟩
  · refine v_sipush' X ks_m1003 dX6_undo_10 ?_
    subst hQ0
    exact v_iret X rfl (Nat.le_of_ble_eq_true rfl) (Nat.le_of_ble_eq_true rfl) dX6_undo_13 ⟨so_some (if_pos q1).symm, Or.inl ⟨q1, rfl⟩⟩
theorem RE_ok {γ : Gm} {W2 : Wd} {S : Nat → Int32} {n : Nat} {R0 : Nat → Int32} {p : Rd} (h : RE γ W2 S n R0 p) (h1 : (r_reads S n R0).1.2 = (-1001)) : (r_reads S n R0).2.1 ≤ 12 ∧ LF γ W2 8 0 (r_reads S n R0).2.1 (r_reads S n R0).2.2 ∧ ∀ t, t < (r_reads S n R0).2.1 → OVo (oM (r_reads S n R0).2.2 0 t) := by
  rcases h.2 with z | z
  · exact z.2
  · exact absurd (h.1.trans h1) z.1
set_option maxHeartbeats 4000000 in
set_option maxRecDepth 100000 in
theorem c_X6_order (l : Launch) (γ : Gm) (W : Wd) (nc : Nat) (M P T : Nat → Int32) (u t cn q tm : Nat) (hI : CI γ W nc M P T u t cn q tm) (hnc : nc < 600) (R0 : Nat → Int32) : Cr l γ yX6_order cX6_order 1 (some .int) 10 235 50 620 [.ref γ.1] (rdw γ W) (fun v h' => v = some (.int (if (r_reads (W.1 8) t R0).1.2 = (-1001) then (if q + (r_reads (W.1 8) t R0).2.1 ≤ 10 then nI (r_reads (W.1 8) t R0).2.1 else (-1004)) else (-1003))) ∧ ((((r_reads (W.1 8) t R0).1.2 = (-1001) ∧ q + (r_reads (W.1 8) t R0).2.1 ≤ 10) ∧ ∃ (W' : Wd) (q2 : Nat), h' = rdw γ W' ∧ CI γ W' (nc + 1) (q_add M (r_reads (W.1 8) t R0).2.2 q (r_reads (W.1 8) t R0).2.1) (s_keepP M P u) T (s_u u) t cn q2 tm ∧ RB W W') ∨ (¬ ((r_reads (W.1 8) t R0).1.2 = (-1001) ∧ q + (r_reads (W.1 8) t R0).2.1 ≤ 10) ∧ ∃ W' : Wd, h' = rdw γ W' ∧ CI γ W' nc M P T u t cn q tm ∧ RB W W'))) := by
  refine Cr_of [some (.ref γ.1)] (by decide +kernel) (Nat.le_of_ble_eq_true rfl) rfl ?_
  intro p e s m args below meth c X
  refine v_q0 (fun Q0 hQ0 => ?_)
  have hI0 := hI
  obtain ⟨hM, hV, hF, hL1, hL8, hH, hX, hN⟩ := hI0
  obtain ⟨hVS, hT, hT9⟩ := hV
  obtain ⟨⟨hc, h1, h6⟩, hOQ, hTP, hHB, hSR⟩ := hVS
  have h10 := hOQ.2.1
  have hB9 : 3600 * (tm : Int) < 1000000000 := by omega
  refine v_aload_n X rfl dX6_order_0 ?_
  refine v_getf X fd_X6_10 (rd_BT γ _) rfl dX6_order_1 ?_
  refine v_callV (ci := 4) X mv_X6_45 (c_X3_read l γ W t hX.1 hX.2.1 hX.2.2.2 hL8 hN R0) rfl rfl (rd_Text γ _) rfl ⟨Nat.le_of_ble_eq_true rfl, Nat.le_of_ble_eq_true rfl, Nat.le_of_ble_eq_true rfl, Nat.le_of_ble_eq_true rfl⟩ (Nat.le_of_ble_eq_true rfl) rfl dX6_order_4 rfl (nd_v (fun h9 hp9 => ?_))
  obtain ⟨W2, pp, rfl, hA1, hA2, hA3, hRE⟩ := hp9
  obtain ⟨hI2, hR2⟩ := hI.read hA1 hA2 hA3 hRE
  have e61 : W2.1 8 61 = (r_reads (W.1 8) t R0).1.2 := by rw [hA1, ws_same, ct_61]; exact hRE.1
  refine v_aload_n X rfl dX6_order_7 ?_
  refine v_getf X fd_X6_10 (rd_BT γ _) rfl dX6_order_8 ?_
  refine v_getf X (v := (.int (W2.1 8 61))) fd_X6_48 (rd_Text γ _) rfl dX6_order_11 ?_
  rw [e61]
  refine v_sipush' X ks_m1001 dX6_order_14 ?_
  refine v_icmp_eq (tgt := 24) X dX6_order_17 (by decide) (fun q1 => ?_) (fun q1 => ?_)
  · obtain ⟨hg12, ⟨rowT, hBT, hRT⟩, hoT⟩ := RE_ok hRE q1
    obtain ⟨row, hLB, hLR⟩ := hI2.2.2.1
    refine v_aload_n X rfl dX6_order_24 ?_
    refine v_getf X fd_X6_19 (rd_BT γ _) rfl dX6_order_25 ?_
    refine v_getf X fd_X6_112 (rz_State γ (k := 0) (by decide) rfl) rfl dX6_order_28 ?_
    refine v_callV (ci := 0) X mv_X6_116 (k_size l γ W2 0 q row (by decide) _ rfl hLB) rfl rfl (rd_SList γ (k := 0) _ (by decide)) rfl ⟨Nat.le_of_ble_eq_true rfl, Nat.le_of_ble_eq_true rfl, Nat.le_of_ble_eq_true rfl, Nat.le_of_ble_eq_true rfl⟩ (Nat.le_of_ble_eq_true rfl) rfl dX6_order_31 rfl (det_i ?_)
    refine v_aload_n X rfl dX6_order_34 ?_
    refine v_getf X fd_X6_10 (rd_BT γ _) rfl dX6_order_35 ?_
    refine v_getf X fd_X6_121 (rd_Text γ _) rfl dX6_order_38 ?_
    refine v_callV (ci := 0) X mv_X6_116 (k_size l γ W2 8 (r_reads (W.1 8) t R0).2.1 rowT (by decide) _ rfl hBT) rfl rfl (rd_TList γ _) rfl ⟨Nat.le_of_ble_eq_true rfl, Nat.le_of_ble_eq_true rfl, Nat.le_of_ble_eq_true rfl, Nat.le_of_ble_eq_true rfl⟩ (Nat.le_of_ble_eq_true rfl) rfl dX6_order_41 rfl (det_i ?_)
    refine v_iadd' X (nI_add _ _) dX6_order_44 ?_
    refine v_bipush' X kb_10 dX6_order_45 ?_
    refine v_icmp_le_n (tgt := 54) X dX6_order_47 (by decide) (by omega) (by omega) (fun q2 => ?_) (fun q2 => ?_)
    · refine v_aload_n X rfl dX6_order_54 ?_
      refine v_getf X fd_X6_29 (rd_BT γ _) rfl dX6_order_55 ?_
      refine v_aload_n X rfl dX6_order_58 ?_
      refine v_getf X fd_X6_19 (rd_BT γ _) rfl dX6_order_59 ?_
      refine v_callV (ci := 1) X mv_X6_58 (k_keep l γ W2 nc M P T u t cn q tm hI2 hnc) rfl rfl (rd_Hist γ _) rfl ⟨Nat.le_of_ble_eq_true rfl, Nat.le_of_ble_eq_true rfl, Nat.le_of_ble_eq_true rfl, Nat.le_of_ble_eq_true rfl⟩ (Nat.le_of_ble_eq_true rfl) rfl dX6_order_62 rfl (nd_v (fun h9 hp9 => ?_))
      obtain ⟨W3, rfl, hI3, hR3, hE3, hl3⟩ := hp9
      refine v_aload_n X rfl dX6_order_65 ?_
      refine v_getf X fd_X6_10 (rd_BT γ _) rfl dX6_order_66 ?_
      refine v_getf X fd_X6_121 (rd_Text γ _) rfl dX6_order_69 ?_
      refine v_aload_n X rfl dX6_order_72 ?_
      refine v_getf X fd_X6_19 (rd_BT γ _) rfl dX6_order_73 ?_
      refine v_getf X fd_X6_112 (rz_State γ (k := 0) (by decide) rfl) rfl dX6_order_76 ?_
      refine v_callS X ms_X6_122 (c_X6_addAll l γ W3 8 0 (r_reads (W.1 8) t R0).2.1 q rowT row (by decide) (by decide) (by decide) _ _ rfl rfl (hBT.ext hE3 (hl3 8 (Or.inr rfl))) (hLB.ext hE3 (hl3 0 (Or.inl (by decide)))) (hRT.lo.ext hE3) (hLR.lo.ext hE3) hI3.2.2.2.2.2.2.2 (by omega) (by omega)) rfl ⟨Nat.le_of_ble_eq_true rfl, Nat.le_of_ble_eq_true rfl, Nat.le_of_ble_eq_true rfl, Nat.le_of_ble_eq_true rfl⟩ (Nat.le_of_ble_eq_true rfl) rfl dX6_order_79 rfl (nd_v (fun h9 hp9 => ?_))
      obtain ⟨W4, row4, rfl, hA4⟩ := hp9
      refine v_aload_n X rfl dX6_order_82 ?_
      refine v_getf X fd_X6_10 (rd_BT γ _) rfl dX6_order_83 ?_
      refine v_getf X fd_X6_121 (rd_Text γ _) rfl dX6_order_86 ?_
      refine v_callV (ci := 0) X mv_X6_116 (k_size l γ W4 8 (r_reads (W.1 8) t R0).2.1 rowT (by decide) _ rfl ((hBT.ext hE3 (hl3 8 (Or.inr rfl))).ext hA4.2.2.1 (hA4.2.1 8 (by decide)))) rfl rfl (rd_TList γ _) rfl ⟨Nat.le_of_ble_eq_true rfl, Nat.le_of_ble_eq_true rfl, Nat.le_of_ble_eq_true rfl, Nat.le_of_ble_eq_true rfl⟩ (Nat.le_of_ble_eq_true rfl) rfl dX6_order_89 rfl (det_i ?_)
      subst hQ0
      exact v_iret X rfl (Nat.le_of_ble_eq_true rfl) (Nat.le_of_ble_eq_true rfl) dX6_order_92 ⟨so_some (by rw [if_pos q1, if_pos q2]), Or.inl ⟨⟨q1, q2⟩, wset W4 0 (q_add M (r_reads (W.1 8) t R0).2.2 q (r_reads (W.1 8) t R0).2.1), q + (r_reads (W.1 8) t R0).2.1, by have h9 := rdw_ext γ W4 (g := W4.1 0) (g' := q_add M (r_reads (W.1 8) t R0).2.2 q (r_reads (W.1 8) t R0).2.1) (k := 0) (by decide) (fun i a b c => by rw [hA4.1, hI3.1]; exact (add_off (by omega) c).symm); rw [wset_self] at h9; exact h9, hI3.upd0 (hA4.2.2.1.trans (Ext.ws _ _ _)) (ws_same _ _ _) (fun b _ hb => (ws_ne _ _ hb).trans (congrFun hA4.1 b)) (fun j _ hj => hA4.2.1 j hj) (VT_order hI3.2.1 q2 hoT) (LF.ext (LF_add (W := W3) hA4 (hLR.ext hE3) (hRT.ext hE3) q2) (Ext.ws W4 0 _) rfl), RBz (hR2.trans (hR3.trans fun b _ => congrFun hA4.1 b))⟩⟩
    · refine v_sipush' X ks_m1004 dX6_order_50 ?_
      subst hQ0
      exact v_iret X rfl (Nat.le_of_ble_eq_true rfl) (Nat.le_of_ble_eq_true rfl) dX6_order_53 ⟨so_some (by rw [if_pos q1, if_neg (by omega)]), Or.inr ⟨fun z => by omega, W2, rfl, hI2, hR2⟩⟩
  · refine v_sipush' X ks_m1003 dX6_order_20 ?_
    subst hQ0
    exact v_iret X rfl (Nat.le_of_ble_eq_true rfl) (Nat.le_of_ble_eq_true rfl) dX6_order_23 ⟨so_some (if_neg q1).symm, Or.inr ⟨fun z => q1 z.1, W2, rfl, hI2, hR2⟩⟩
set_option maxHeartbeats 4000000 in
set_option maxRecDepth 100000 in
theorem c_X6_cancel (l : Launch) (γ : Gm) (W : Wd) (nc : Nat) (M P T : Nat → Int32) (u t cn q tm : Nat) (hI : CI γ W nc M P T u t cn q tm) (hnc : nc < 600) (x : Int32) : Cr l γ yX6_cancel cX6_cancel 2 (some .int) 10 235 12 180 [.ref γ.1, .int x] (rdw γ W) (fun v h' => v = some (.int ((if ¬ x < nI 0 ∧ ¬ (nI q - nI 1) < x then (nI (q - 1)) else (-1002)))) ∧ ((((¬ x < nI 0 ∧ ¬ (nI q - nI 1) < x)) ∧ ∃ (W' : Wd) (cn2 q2 tm2 : Nat), h' = rdw γ W' ∧ CI γ W' (nc + 1) (q_drop M (q - 1) x.toNatClampNeg) (s_keepP M P u) T (s_u u) t cn2 q2 tm2 ∧ RB W W') ∨ (¬ ((¬ x < nI 0 ∧ ¬ (nI q - nI 1) < x)) ∧ h' = rdw γ W))) := by
  refine Cr_of [some (.ref γ.1), some (.int x)] (by decide +kernel) (Nat.le_of_ble_eq_true rfl) rfl ?_
  intro p e s m args below meth c X
  refine v_q0 (fun Q0 hQ0 => ?_)
  have hI0 := hI
  obtain ⟨hM, hV, hF, hL1, hL8, hH, hX, hN⟩ := hI0
  obtain ⟨hVS, hT, hT9⟩ := hV
  obtain ⟨⟨hc, h1, h6⟩, hOQ, hTP, hHB, hSR⟩ := hVS
  have h10 := hOQ.2.1
  have hB9 : 3600 * (tm : Int) < 1000000000 := by omega
  refine v_eqh (CI_w hI) ?_
  have hI2 := hI.self
  obtain ⟨row, hLB, hLR⟩ := hF
  refine v_iload_n X rfl dX6_cancel_0 ?_
  refine v_if_lt (tgt := 18) X dX6_cancel_1 (by decide) (fun q1 => ?_) (fun q1 => ?_)
  · have nok : ¬ (¬ x < nI 0 ∧ ¬ (nI q - nI 1) < x) := fun z => z.1 (by rw [nI_0]; exact q1)
    refine v_sipush' X ks_m1002 dX6_cancel_18 ?_
    subst hQ0
    exact v_iret X rfl (Nat.le_of_ble_eq_true rfl) (Nat.le_of_ble_eq_true rfl) dX6_cancel_21 ⟨so_some ((if_neg nok).symm), Or.inr ⟨nok, (CI_w hI).symm⟩⟩
  · obtain ⟨j, hj, rfl⟩ := nI_of q1
    have hcj := can_ok (q := q) (j := j) h10 hj
    refine v_iload_n X rfl dX6_cancel_4 ?_
    refine v_aload_n X rfl dX6_cancel_5 ?_
    refine v_getf X fd_X6_19 (rd_BT γ _) rfl dX6_cancel_6 ?_
    refine v_getf X fd_X6_112 (rd_State γ _ _ (by decide)) rfl dX6_cancel_9 ?_
    refine v_callV (ci := 0) X mv_X6_116 (k_size l γ (wset W 0 M) 0 q row (by decide) _ rfl hLB) rfl rfl (rd_SList γ (k := 0) _ (by decide)) rfl ⟨Nat.le_of_ble_eq_true rfl, Nat.le_of_ble_eq_true rfl, Nat.le_of_ble_eq_true rfl, Nat.le_of_ble_eq_true rfl⟩ (Nat.le_of_ble_eq_true rfl) rfl dX6_cancel_12 rfl (det_i ?_)
    refine v_icmp_lt_n (tgt := 22) X dX6_cancel_15 (by decide) (by omega) (by omega) (fun q2 => ?_) (fun q2 => ?_)
    · have ok := hcj.mpr q2
      refine v_aload_n X rfl dX6_cancel_22 ?_
      refine v_getf X fd_X6_29 (rd_BT γ _) rfl dX6_cancel_23 ?_
      refine v_aload_n X rfl dX6_cancel_26 ?_
      refine v_getf X fd_X6_19 (rd_BT γ _) rfl dX6_cancel_27 ?_
      refine v_callV (ci := 1) X mv_X6_58 (k_keep l γ (wset W 0 M) nc M P T u t cn q tm hI2 hnc) rfl rfl (rd_Hist γ _) rfl ⟨Nat.le_of_ble_eq_true rfl, Nat.le_of_ble_eq_true rfl, Nat.le_of_ble_eq_true rfl, Nat.le_of_ble_eq_true rfl⟩ (Nat.le_of_ble_eq_true rfl) rfl dX6_cancel_30 rfl (nd_v (fun h9 hp9 => ?_))
      obtain ⟨W2, rfl, hI3, hR3, hE3, hl3⟩ := hp9
      refine v_eqh (CI_w hI3) ?_
      obtain ⟨row3, hB3, hR3b⟩ := hI3.2.2.1
      obtain ⟨a3, ha3, -⟩ := hR3b j q2
      refine v_aload_n X rfl dX6_cancel_33 ?_
      refine v_getf X fd_X6_19 (rd_BT γ _) rfl dX6_cancel_34 ?_
      refine v_getf X fd_X6_112 (rd_State γ _ _ (by decide)) rfl dX6_cancel_37 ?_
      refine v_iload_n X rfl dX6_cancel_40 ?_
      refine v_callV (ci := 0) X mv_X6_126 (k_rem l γ (wset W2 0 M) 0 q row3 (by decide) _ rfl hB3 j a3 q2 ha3 hR3b.lo) rfl rfl (rd_SList γ (k := 0) _ (by decide)) rfl ⟨Nat.le_of_ble_eq_true rfl, Nat.le_of_ble_eq_true rfl, Nat.le_of_ble_eq_true rfl, Nat.le_of_ble_eq_true rfl⟩ (Nat.le_of_ble_eq_true rfl) rfl dX6_cancel_41 rfl (nd_r (fun h9 hp9 => ?_))
      obtain ⟨v4, rfl, hB4⟩ := hp9
      rw [ws_wl] at hB4 ⊢
      refine v_pop X rfl dX6_cancel_44 ?_
      refine v_aload_n X rfl dX6_cancel_45 ?_
      refine v_getf X fd_X6_19 (rd_BT γ _) rfl dX6_cancel_46 ?_
      refine v_getf X fd_X6_112 (rd_State γ _ _ (by decide)) rfl dX6_cancel_49 ?_
      refine v_callV (ci := 0) X mv_X6_116 (k_size l γ (wset (wl W2 0 v4) 0 M) 0 (q - 1) _ (by decide) _ rfl hB4) rfl rfl (rd_SList γ (k := 0) _ (by decide)) rfl ⟨Nat.le_of_ble_eq_true rfl, Nat.le_of_ble_eq_true rfl, Nat.le_of_ble_eq_true rfl, Nat.le_of_ble_eq_true rfl⟩ (Nat.le_of_ble_eq_true rfl) rfl dX6_cancel_52 rfl (det_i ?_)
      subst hQ0
      exact v_iret X rfl (Nat.le_of_ble_eq_true rfl) (Nat.le_of_ble_eq_true rfl) dX6_cancel_55 ⟨so_some (if_pos ok).symm, Or.inl ⟨ok, wset (wl W2 0 v4) 0 (q_drop M (q - 1) j), cn, q - 1, tm, rdw_ext γ (wl W2 0 v4) (by decide) (fun i a b c => (q_drop_off M (by omega) (by omega) c).symm), by rw [nI_clamp (by omega)]; exact hI3.upd0 (Ext.wl _ _ _) (ws_same _ _ _) (fun b _ hb => ws_ne _ _ hb) (fun b _ hb => wl_ne _ _ hb) (VT_cancel hI3.2.1 q2) ⟨_, hB4, LR_drop hR3b (Ext.wl _ _ _) q2 h10⟩, RBz (RBs hR3)⟩⟩
    · have nok : ¬ (¬ nI j < nI 0 ∧ ¬ (nI q - nI 1) < nI j) := fun z => by have := hcj.mp z; omega
      refine v_sipush' X ks_m1002 dX6_cancel_18 ?_
      subst hQ0
      exact v_iret X rfl (Nat.le_of_ble_eq_true rfl) (Nat.le_of_ble_eq_true rfl) dX6_cancel_21 ⟨so_some ((if_neg nok).symm), Or.inr ⟨nok, (CI_w hI).symm⟩⟩
set_option maxHeartbeats 4000000 in
set_option maxRecDepth 100000 in
theorem c_X6_pass (l : Launch) (γ : Gm) (W : Wd) (nc : Nat) (M P T : Nat → Int32) (u t cn q tm : Nat) (hI : CI γ W nc M P T u t cn q tm) (hnc : nc < 600) (x : Int32) : Cr l γ yX6_pass cX6_pass 3 (some .int) 10 235 12 180 [.ref γ.1, .int x] (rdw γ W) (fun v h' => v = some (.int ((if ¬ x < nI 1 ∧ ¬ nI 200 < x then (if M 222 + x ≤ nI 9999 then (s_secs M x.toNatClampNeg 219) else (-1004)) else (-1002)))) ∧ ((((¬ x < nI 1 ∧ ¬ nI 200 < x) ∧ (M 222 + x ≤ nI 9999)) ∧ ∃ (W' : Wd) (cn2 q2 tm2 : Nat), h' = rdw γ W' ∧ CI γ W' (nc + 1) (s_secs M x.toNatClampNeg) (s_keepP M P u) T (s_u u) t cn2 q2 tm2 ∧ RB W W') ∨ (¬ ((¬ x < nI 1 ∧ ¬ nI 200 < x) ∧ (M 222 + x ≤ nI 9999)) ∧ h' = rdw γ W))) := by
  refine Cr_of [some (.ref γ.1), some (.int x), none] (by decide +kernel) (Nat.le_of_ble_eq_true rfl) rfl ?_
  intro p e s m args below meth c X
  refine v_q0 (fun Q0 hQ0 => ?_)
  have hI0 := hI
  obtain ⟨hM, hV, hF, hL1, hL8, hH, hX, hN⟩ := hI0
  obtain ⟨hVS, hT, hT9⟩ := hV
  obtain ⟨⟨hc, h1, h6⟩, hOQ, hTP, hHB, hSR⟩ := hVS
  have h10 := hOQ.2.1
  have hB9 : 3600 * (tm : Int) < 1000000000 := by omega
  refine v_eqh (CI_w hI) ?_
  have hI2 := hI.self
  refine v_iload_n X rfl dX6_pass_0 ?_
  refine v_iconst' X kc_1 dX6_pass_1 ?_
  refine v_sipush' X ks_200 dX6_pass_2 ?_
  refine v_callS X ms_X6_33 (c_X6_isWithin l γ _ _ _ _) rfl ⟨Nat.le_of_ble_eq_true rfl, Nat.le_of_ble_eq_true rfl, Nat.le_of_ble_eq_true rfl, Nat.le_of_ble_eq_true rfl⟩ (Nat.le_of_ble_eq_true rfl) rfl dX6_pass_5 rfl (det_i ?_)
  refine v_if_ne_b (tgt := 15) X dX6_pass_8 (by decide) (fun q1 => ?_) (fun q1 => ?_)
  · obtain ⟨n, hn1, hn2, rfl⟩ := in_nat1 (by decide) (by decide) q1
    have ej : (nI n).toNatClampNeg = n := nI_clamp (by omega)
    refine v_aload_n X rfl dX6_pass_15 ?_
    refine v_getf X fd_X6_19 (rd_BT γ _) rfl dX6_pass_16 ?_
    refine v_getf X (v := .int (M 222)) fd_X6_130 (rd_State γ _ _ (by decide)) rfl dX6_pass_19 ?_
    refine v_iload_n X rfl dX6_pass_22 ?_
    refine v_iadd X dX6_pass_23 ?_
    refine v_sipush' X ks_9999 dX6_pass_24 ?_
    refine v_icmp_le (tgt := 34) X dX6_pass_27 (by decide) (fun q2 => ?_) (fun q2 => ?_)
    · have hle : tm + n ≤ 9999 := by
        have h9 := q2
        rw [hT, nI_add] at h9
        exact (nI_leI (by omega) (by decide)).mp h9
      refine v_aload_n X rfl dX6_pass_34 ?_
      refine v_getf X fd_X6_29 (rd_BT γ _) rfl dX6_pass_35 ?_
      refine v_aload_n X rfl dX6_pass_38 ?_
      refine v_getf X fd_X6_19 (rd_BT γ _) rfl dX6_pass_39 ?_
      refine v_callV (ci := 1) X mv_X6_58 (k_keep l γ (wset W 0 M) nc M P T u t cn q tm hI2 hnc) rfl rfl (rd_Hist γ _) rfl ⟨Nat.le_of_ble_eq_true rfl, Nat.le_of_ble_eq_true rfl, Nat.le_of_ble_eq_true rfl, Nat.le_of_ble_eq_true rfl⟩ (Nat.le_of_ble_eq_true rfl) rfl dX6_pass_42 rfl (nd_v (fun h9 hp9 => ?_))
      obtain ⟨W2, rfl, hI3, hR3, hE3, hl3⟩ := hp9
      refine v_eqh (CI_w hI3) ?_
      refine v_iconst' X kc_0 dX6_pass_45 ?_
      refine v_istore_n X (Nat.le_of_ble_eq_true rfl) rfl dX6_pass_46 ?_
      have lp47 : ∀ (n9 : Nat) (i : Nat) (W3 : Wd) (qi : Nat), i ≤ n ∧ n + 1 ≤ i + n9 → CI γ (wset W3 0 (s_secs M i)) (nc + 1) (s_secs M i) (s_keepP M P u) T (s_u u) t cn qi (tm + i) → RB W W3 → V p l e { frames := 10, cells := 12, slots := 180, locals := 235 } s m args below meth c γ Q0 (rdw γ (wset W3 0 (s_secs M i))) (0 + 12) (0 + 180) 47 [some (.ref γ.1), some (.int (nI n)), some (.int (nI i))] [] := by
        intro n9
        induction n9 with
        | zero =>
          intro i W3 qi hbd
          exact absurd hbd (by omega)
        | succ n9 ih =>
          intro i W3 qi hbd hC hRw
          refine v_iload_n X rfl dX6_pass_47 ?_
          refine v_iload_n X rfl dX6_pass_48 ?_
          refine v_icmp_ge_n (tgt := 65) X dX6_pass_49 (by decide) (by omega) (by omega) (fun c_1 => ?_) (fun c_1 => ?_)
          · obtain rfl : i = n := by omega
            refine v_aload_n X rfl dX6_pass_65 ?_
            refine v_getf X fd_X6_19 (rd_BT γ _) rfl dX6_pass_66 ?_
            refine v_getf X fd_X6_65 (rd_State γ _ _ (by decide)) rfl dX6_pass_69 ?_
            refine v_getf X (v := .int ((s_secs M i) 219)) fd_X6_136 (rd_Train γ _ _ (by decide)) rfl dX6_pass_72 ?_
            subst hQ0
            exact v_iret X rfl (Nat.le_of_ble_eq_true rfl) (Nat.le_of_ble_eq_true rfl) dX6_pass_75 ⟨so_some (by rw [if_pos q1, if_pos q2, ej]), Or.inl ⟨⟨q1, q2⟩, _, _, _, _, rfl, by rw [ej]; exact hC, RBz hRw⟩⟩
          · refine v_aload_n X rfl dX6_pass_52 ?_
            refine v_getf X fd_X6_19 (rd_BT γ _) rfl dX6_pass_53 ?_
            refine v_callV (ci := 3) X mv_X6_133 (c_X2_passSecond l γ W3 (s_secs M i) 0 (by decide) cn qi _ hC.2.1.1 (by omega) hC.2.2.1) rfl rfl (rd_State γ _ _ (by decide)) rfl ⟨Nat.le_of_ble_eq_true rfl, Nat.le_of_ble_eq_true rfl, Nat.le_of_ble_eq_true rfl, Nat.le_of_ble_eq_true rfl⟩ (Nat.le_of_ble_eq_true rfl) rfl dX6_pass_56 rfl (nd_v (fun h9 hp9 => ?_))
            obtain ⟨v2, q2b, rfl, hq2, hQ2, hF3⟩ := hp9
            have hC2 := sec_ci hC hQ2 hF3 (by omega)
            refine v_iinc' X rfl rfl (nI_inc _) dX6_pass_59 ?_
            refine v_goto (tgt := 47) X dX6_pass_62 (by decide) ?_
            exact (ih (i + 1) _ _ ⟨by omega, by omega⟩ hC2 hRw)
      exact (lp47 (n + 1) 0 _ _ ⟨by omega, by omega⟩ hI3.self (RBs hR3))
    · have nok : ¬ ((¬ nI n < nI 1 ∧ ¬ nI 200 < nI n) ∧ M 222 + nI n ≤ nI 9999) := fun z => q2 z.2
      refine v_sipush' X ks_m1004 dX6_pass_30 ?_
      subst hQ0
      exact v_iret X rfl (Nat.le_of_ble_eq_true rfl) (Nat.le_of_ble_eq_true rfl) dX6_pass_33 ⟨so_some (by rw [if_pos q1, if_neg q2]), Or.inr ⟨nok, (CI_w hI).symm⟩⟩
  · have nok : ¬ ((¬ x < nI 1 ∧ ¬ nI 200 < x) ∧ (M 222 + x ≤ nI 9999)) := fun z => q1 z.1
    have ev : (-1002) = ((if ¬ x < nI 1 ∧ ¬ nI 200 < x then (if M 222 + x ≤ nI 9999 then (s_secs M x.toNatClampNeg 219) else (-1004)) else (-1002))) := (if_neg q1).symm
    refine v_sipush' X ks_m1002 dX6_pass_11 ?_
    subst hQ0
    exact v_iret X rfl (Nat.le_of_ble_eq_true rfl) (Nat.le_of_ble_eq_true rfl) dX6_pass_14 ⟨so_some (ev), Or.inr ⟨nok, (CI_w hI).symm⟩⟩
