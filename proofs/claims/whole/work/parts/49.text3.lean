/-! reading an order, reading the text -/
theorem k_one (l : Launch) (γ : Gm) (W : Wd) (S : Nat → Int32) (pp : Rd) (n : Nat) (hn : S 60 = nI n) (h60 : n ≤ 60) (hp : pp.1 ≤ 800) (hb : BY7 S n) (i : Nat) (hi : i < 4) : Cr l γ yX3_takeOneOf cX3_takeOneOf 4 (some .int) 7 159 0 0 [.ref (γ.1 + 1), .ref (γ.2.2.2 (10 + i))] (rdw γ (wset W 8 (ct S pp))) (Det (some (.int (on_v S n pp i))) (rdw γ (wset W 8 (ct S (on_p S n pp i))))) := c_X3_takeOneOf l γ W S pp n hn h60 hp hb i hi
theorem k_dig (l : Launch) (γ : Gm) (W : Wd) (S : Nat → Int32) (pp : Rd) (n : Nat) (hn : S 60 = nI n) (h60 : n ≤ 60) (hp : pp.1 ≤ 800) (a b : Int32) : Cr l γ yX3_takeDigit cX3_takeDigit 3 (some .int) 3 65 0 0 [.ref (γ.1 + 1), .int a, .int b] (rdw γ (wset W 8 (ct S pp))) (Det (some (.int (dg_v S n pp a b))) (rdw γ (wset W 8 (ct S (dg_p S n pp a b))))) := c_X3_takeDigit l γ W S pp n hn h60 hp a b
theorem cx_R {p : Program} {s : State} {m : MethodId} {args : Array Value} {meth : Method} {c : Code} {γ : Gm} {y : MethodName} {cc : ByteArray} {nL : Nat} {ret : Option FieldType} (X : Cx p s m args meth c γ y cc nL ret) : vk_R "BallastTrain$Text" 41 "@" (γ.2.2.2 10) s ∧ vk_R "BallastTrain$Text" 51 "ocv" (γ.2.2.2 11) s ∧ vk_R "BallastTrain$Text" 57 "lmr" (γ.2.2.2 12) s ∧ vk_R "BallastTrain$Text" 59 ";" (γ.2.2.2 13) s := (cx_env X).2.2.2.1
/-- the world with a new order -/
def wnew (W : Wd) (v : Nat → Int32) : Wd := wn (wdy W W.2.2.2.2 (.inr v)) (W.2.2.2.2 + 1)
theorem new_ord (γ : Gm) (W : Wd) (hn : γ.1 + 92 ≤ W.2.2.2.2) (v : Nat → Int32) : hnew (rdw γ W) (.inr (2, [.int (v 0), .int (v 1), .int (v 2), .int (v 3), .int (v 4)])) = rdw γ (wnew W v) := by
  refine Prod.ext (funext fun a => ?_) rfl
  by_cases ha : a = W.2.2.2.2
  · subst ha
    rw [show W.2.2.2.2 = (rdw γ W).2 from rfl, hnew_at]
    show _ = (rdw γ (wnew W v)).1 W.2.2.2.2
    rw [rdw_hi γ _ hn, dyn_inr γ (wnew W v) (a := W.2.2.2.2) (v := v) (if_pos rfl)]
  · rw [hnew_off _ _ (show a ≠ (rdw γ W).2 from ha)]
    refine rdw_off γ _ _ (fun i hi hai => rfl) ?_
    have e : (wnew W v).2.2.1 a = W.2.2.1 a := if_neg ha
    rcases hq : W.2.2.1 a with _ | j2 | v2
    · rw [dyn_no γ W hq, dyn_no γ _ (e.trans hq)]
    · rw [dyn_inl γ W hq, dyn_inl γ _ (e.trans hq)]; rfl
    · rw [dyn_inr γ W hq, dyn_inr γ _ (e.trans hq)]
theorem wnew_x (W : Wd) (v : Nat → Int32) : Ext W (wnew W v) := ⟨Nat.le_succ _, fun a ha => if_neg (Nat.ne_of_lt ha), rfl⟩
theorem wnew_o {γ : Gm} {W : Wd} (hn : γ.1 + 92 ≤ W.2.2.2.2) (v : Nat → Int32) : OrdAt γ (wnew W v) W.2.2.2.2 v := ⟨hn, Nat.lt_succ_self _, v, if_pos rfl, fun _ _ => rfl⟩
/-- what reading an order leaves -/
def RO (γ : Gm) (W W' : Wd) (S : Nat → Int32) (n g : Nat) (pp : Rd) (row : Nat → Option Nat) : Prop := W'.1 = (wset W 8 (ct S (d_7 S n pp))).1 ∧ (∀ c, c ≠ 8 → W'.2.1 c = W.2.1 c) ∧ Ext W W' ∧ (((d_7 S n pp).2 = (-1001) ∧ ∃ row' b, LB γ W' 8 (g + 1) row' ∧ (∀ t, t < g → row' t = row t) ∧ row' g = some b ∧ OrdAt γ W' b (d_o S n pp)) ∨ (¬ (d_7 S n pp).2 = (-1001) ∧ W'.2.1 8 = W.2.1 8))
set_option maxHeartbeats 4000000 in
set_option maxRecDepth 100000 in
theorem c_X3_readOrder (l : Launch) (γ : Gm) (W : Wd) (S : Nat → Int32) (pp : Rd) (n : Nat) (hn : S 60 = nI n) (h60 : n ≤ 60) (hp : pp.1 ≤ 390) (hb : BY7 S n) (g : Nat) (row : Nat → Option Nat) (hB : LB γ W 8 g row) (hO : LO γ W row g) (hg : g < 15) (hN : γ.1 + 92 ≤ W.2.2.2.2) : Cr l γ yX3_readOrder cX3_readOrder 6 none 8 182 2 20 [.ref (γ.1 + 1)] (rdw γ (wset W 8 (ct S pp))) (fun v h' => v = none ∧ ∃ W' : Wd, h' = rdw γ W' ∧ RO γ W W' S n g pp row) := by
  refine Cr_of [some (.ref (γ.1 + 1)), none, none, none, none, none] (by decide +kernel) (Nat.le_of_ble_eq_true rfl) rfl ?_
  intro p e s m args below meth c X
  refine v_q0 (fun Q0 hQ0 => ?_)
  obtain ⟨hb1, hb2, hb3⟩ := d3_b (T := S) (n := n) (p := pp) (B := 390) (by omega) (by omega)
  refine v_aload_n X rfl dX3_readOrder_0 ?_
  refine v_ldcS X (cx_R X).1 dX3_readOrder_1 ?_
  refine v_callV (ci := 4) X mv_X3_43 (k_one l γ W S pp n hn h60 (by omega) hb 0 (by decide)) rfl rfl (rd_Text γ _) rfl ⟨Nat.le_of_ble_eq_true rfl, Nat.le_of_ble_eq_true rfl, Nat.le_of_ble_eq_true rfl, Nat.le_of_ble_eq_true rfl⟩ (Nat.le_of_ble_eq_true rfl) rfl dX3_readOrder_3 rfl (det_i ?_)
  rw [show on_p S n pp 0 = d_1 S n pp from rfl]
  refine v_pop X rfl dX3_readOrder_6 ?_
  refine v_aload_n X rfl dX3_readOrder_7 ?_
  refine v_callV (ci := 4) X mv_X3_47 (c_X3_takeCell l γ W S (d_1 S n pp) n hn h60 (by omega)) rfl rfl (rd_Text γ _) rfl ⟨Nat.le_of_ble_eq_true rfl, Nat.le_of_ble_eq_true rfl, Nat.le_of_ble_eq_true rfl, Nat.le_of_ble_eq_true rfl⟩ (Nat.le_of_ble_eq_true rfl) rfl dX3_readOrder_8 rfl (det_i ?_)
  rw [show c_cell S n (d_1 S n pp) = d_2 S n pp from rfl, show c_cv S n (d_1 S n pp) = d_c S n pp from rfl]
  refine v_istore_n X (Nat.le_of_ble_eq_true rfl) rfl dX3_readOrder_11 ?_
  refine v_aload_n X rfl dX3_readOrder_12 ?_
  refine v_ldcS X (cx_R X).2.1 dX3_readOrder_13 ?_
  refine v_callV (ci := 4) X mv_X3_43 (k_one l γ W S (d_2 S n pp) n hn h60 (by omega) hb 1 (by decide)) rfl rfl (rd_Text γ _) rfl ⟨Nat.le_of_ble_eq_true rfl, Nat.le_of_ble_eq_true rfl, Nat.le_of_ble_eq_true rfl, Nat.le_of_ble_eq_true rfl⟩ (Nat.le_of_ble_eq_true rfl) rfl dX3_readOrder_15 rfl (det_i ?_)
  rw [show on_p S n (d_2 S n pp) 1 = d_3 S n pp from rfl, show on_v S n (d_2 S n pp) 1 = d_k S n pp from rfl]
  refine v_istore_n X (Nat.le_of_ble_eq_true rfl) rfl dX3_readOrder_18 ?_
  refine v_sipush' X ks_m1001 dX3_readOrder_19 ?_
  refine v_istore_n X (Nat.le_of_ble_eq_true rfl) rfl dX3_readOrder_22 ?_
  refine v_sipush' X ks_m1001 dX3_readOrder_23 ?_
  refine v_istore X (Nat.le_of_ble_eq_true rfl) rfl dX3_readOrder_26 ?_
  refine v_sipush' X ks_m1001 dX3_readOrder_28 ?_
  refine v_istore X (Nat.le_of_ble_eq_true rfl) rfl dX3_readOrder_31 ?_
  rcases dk_cases S n pp with k0 | k0 | k0 | k0
  · have ef : d_f S n pp = ((dg_p S n (on_p S n (dg_p S n (d_3 S n pp) (nI 0) (nI 5)) 2) (nI 1) (nI 3)), (dg_v S n (d_3 S n pp) (nI 0) (nI 5)), (on_v S n (dg_p S n (d_3 S n pp) (nI 0) (nI 5)) 2), (dg_v S n (on_p S n (dg_p S n (d_3 S n pp) (nI 0) (nI 5)) 2) (nI 1) (nI 3))) := by unfold d_f d_fin; rw [k0]; rw [if_pos rfl]
    have hb4 := dg_b (T := S) (n := n) (p := d_3 S n pp) (a := nI 0) (b := nI 5) (B := 504) (by omega) (by omega)
    have hb5 := on_b (T := S) (n := n) (i := 2) (B := 505) hb4 (by omega)
    have hb6 := dg_b (T := S) (n := n) (a := nI 1) (b := nI 3) (B := 506) hb5 (by omega)
    have hb7 := dg_b (T := S) (n := n) (p := d_3 S n pp) (a := nI 0) (b := nI 3) (B := 504) (by omega) (by omega)
    have ko : [Value.int (d_c S n pp), .int (nI 0), .int (dg_v S n (d_3 S n pp) (nI 0) (nI 5)), .int (on_v S n (dg_p S n (d_3 S n pp) (nI 0) (nI 5)) 2), .int (dg_v S n (on_p S n (dg_p S n (d_3 S n pp) (nI 0) (nI 5)) 2) (nI 1) (nI 3))] = [.int (d_o S n pp 0), .int (d_o S n pp 1), .int (d_o S n pp 2), .int (d_o S n pp 3), .int (d_o S n pp 4)] := by
      show _ = [Value.int (d_c S n pp), .int (d_k S n pp), .int (d_f S n pp).2.1, .int (d_f S n pp).2.2.1, .int (d_f S n pp).2.2.2]
      rw [k0, ef]
    rw [k0]
    refine v_iload_n X rfl dX3_readOrder_33 ?_
    refine v_if_eq_t (tgt := 42) X dX3_readOrder_34 (by decide) (by decide) ?_
    refine v_aload_n X rfl dX3_readOrder_42 ?_
    refine v_iconst' X kc_0 dX3_readOrder_43 ?_
    refine v_iconst' X kc_5 dX3_readOrder_44 ?_
    refine v_callV (ci := 4) X mv_X3_53 (k_dig l γ W S (d_3 S n pp) n hn h60 (by omega) (nI 0) (nI 5)) rfl rfl (rd_Text γ _) rfl ⟨Nat.le_of_ble_eq_true rfl, Nat.le_of_ble_eq_true rfl, Nat.le_of_ble_eq_true rfl, Nat.le_of_ble_eq_true rfl⟩ (Nat.le_of_ble_eq_true rfl) rfl dX3_readOrder_45 rfl (det_i ?_)
    refine v_istore_n X (Nat.le_of_ble_eq_true rfl) rfl dX3_readOrder_48 ?_
    refine v_aload_n X rfl dX3_readOrder_49 ?_
    refine v_ldcS X (cx_R X).2.2.1 dX3_readOrder_50 ?_
    refine v_callV (ci := 4) X mv_X3_43 (k_one l γ W S (dg_p S n (d_3 S n pp) (nI 0) (nI 5)) n hn h60 (by omega) hb 2 (by decide)) rfl rfl (rd_Text γ _) rfl ⟨Nat.le_of_ble_eq_true rfl, Nat.le_of_ble_eq_true rfl, Nat.le_of_ble_eq_true rfl, Nat.le_of_ble_eq_true rfl⟩ (Nat.le_of_ble_eq_true rfl) rfl dX3_readOrder_52 rfl (det_i ?_)
    refine v_istore X (Nat.le_of_ble_eq_true rfl) rfl dX3_readOrder_55 ?_
    refine v_iload_n X rfl dX3_readOrder_57 ?_
    refine v_if_ne_f (tgt := 69) X dX3_readOrder_58 (by decide) (by decide) ?_
    refine v_aload_n X rfl dX3_readOrder_61 ?_
    refine v_iconst' X kc_1 dX3_readOrder_62 ?_
    refine v_iconst' X kc_3 dX3_readOrder_63 ?_
    refine v_callV (ci := 4) X mv_X3_53 (k_dig l γ W S (on_p S n (dg_p S n (d_3 S n pp) (nI 0) (nI 5)) 2) n hn h60 (by omega) (nI 1) (nI 3)) rfl rfl (rd_Text γ _) rfl ⟨Nat.le_of_ble_eq_true rfl, Nat.le_of_ble_eq_true rfl, Nat.le_of_ble_eq_true rfl, Nat.le_of_ble_eq_true rfl⟩ (Nat.le_of_ble_eq_true rfl) rfl dX3_readOrder_64 rfl (det_i ?_)
    refine v_istore X (Nat.le_of_ble_eq_true rfl) rfl dX3_readOrder_67 ?_
    refine v_iload_n X rfl dX3_readOrder_69 ?_
    refine v_iconst' X kc_2 dX3_readOrder_70 ?_
    refine v_icmp_ne_t (tgt := 82) X dX3_readOrder_71 (by decide) (by decide) ?_
    refine v_aload_n X rfl dX3_readOrder_82 ?_
    refine v_ldcS X (cx_R X).2.2.2 dX3_readOrder_83 ?_
    refine v_callV (ci := 4) X mv_X3_43 (k_one l γ W S (dg_p S n (on_p S n (dg_p S n (d_3 S n pp) (nI 0) (nI 5)) 2) (nI 1) (nI 3)) n hn h60 (by omega) hb 3 (by decide)) rfl rfl (rd_Text γ _) rfl ⟨Nat.le_of_ble_eq_true rfl, Nat.le_of_ble_eq_true rfl, Nat.le_of_ble_eq_true rfl, Nat.le_of_ble_eq_true rfl⟩ (Nat.le_of_ble_eq_true rfl) rfl dX3_readOrder_85 rfl (det_i ?_)
    rw [show on_p S n (dg_p S n (on_p S n (dg_p S n (d_3 S n pp) (nI 0) (nI 5)) 2) (nI 1) (nI 3)) 3 = d_7 S n pp from by unfold d_7; rw [ef]]
    refine v_pop X rfl dX3_readOrder_88 ?_
    refine v_aload_n X rfl dX3_readOrder_89 ?_
    refine v_getf X (v := (.int ((wset W 8 (ct S (d_7 S n pp))).1 8 61))) fd_X3_26 (rd_Text γ _) rfl dX3_readOrder_90 ?_
    rw [ws_same, ct_61]
    refine v_sipush' X ks_m1001 dX3_readOrder_93 ?_
    refine v_icmp_ne (tgt := 121) X dX3_readOrder_96 (by decide) (fun q7 => ?_) (fun q7 => ?_)
    · subst hQ0
      exact v_vret X rfl (Nat.le_of_ble_eq_true rfl) (Nat.le_of_ble_eq_true rfl) dX3_readOrder_121 ⟨rfl, (wset W 8 (ct S (d_7 S n pp))), rfl, rfl, fun c hc => rfl, Ext.ws _ _ _, Or.inr ⟨q7, rfl⟩⟩
    · refine v_aload_n X rfl dX3_readOrder_99 ?_
      refine v_getf X fd_X3_22 (rd_Text γ _) rfl dX3_readOrder_100 ?_
      refine v_new X nd_X3_61 (Nat.le_of_ble_eq_true rfl) (Nat.le_of_ble_eq_true rfl) dX3_readOrder_103 ?_
      refine v_dup X rfl dX3_readOrder_106 ?_
      refine v_iload_n X rfl dX3_readOrder_107 ?_
      refine v_iload_n X rfl dX3_readOrder_108 ?_
      refine v_iload_n X rfl dX3_readOrder_109 ?_
      refine v_iload X rfl dX3_readOrder_110 ?_
      refine v_iload X rfl dX3_readOrder_112 ?_
      refine v_callI X mi_X3_63 (c_X1_init l γ _ (wset W 8 (ct S (d_7 S n pp))).2.2.2.2 0 0 0 0 0 _ _ _ _ _ (hnew_at _ _)) rfl ⟨Nat.le_of_ble_eq_true rfl, Nat.le_of_ble_eq_true rfl, Nat.le_of_ble_eq_true rfl, Nat.le_of_ble_eq_true rfl⟩ (Nat.le_of_ble_eq_true rfl) rfl dX3_readOrder_114 rfl (det_v ?_)
      refine v_eqh (hset_hnew _ _ _) ?_
      rw [ko]
      refine v_eqh (new_ord γ (wset W 8 (ct S (d_7 S n pp))) hN (d_o S n pp)) ?_
      refine v_callV (ci := 0) X mv_X3_66 (k_add l γ (wnew (wset W 8 (ct S (d_7 S n pp))) (d_o S n pp)) 8 g row (by decide) _ rfl (hB.ext (wnew_x (wset W 8 (ct S (d_7 S n pp))) _) rfl) (Nat.le_succ_of_le hN) (hO.ext (wnew_x (wset W 8 (ct S (d_7 S n pp))) _)) (wset W 8 (ct S (d_7 S n pp))).2.2.2.2 (d_o S n pp) (wnew_o hN _) hg) rfl rfl (rd_TList γ _) rfl ⟨Nat.le_of_ble_eq_true rfl, Nat.le_of_ble_eq_true rfl, Nat.le_of_ble_eq_true rfl, Nat.le_of_ble_eq_true rfl⟩ (Nat.le_of_ble_eq_true rfl) rfl dX3_readOrder_117 rfl (nd_i (fun h9 hp9 => ?_))
      obtain ⟨W2, rfl, hA⟩ := hp9
      obtain ⟨x1, x2, x3, row2, x4, x5, x6⟩ := hA
      refine v_pop X rfl dX3_readOrder_120 ?_
      subst hQ0
      exact v_vret X rfl (Nat.le_of_ble_eq_true rfl) (Nat.le_of_ble_eq_true rfl) dX3_readOrder_121 ⟨rfl, W2, rfl, x1, fun c hc => x2 c hc, (wnew_x (wset W 8 (ct S (d_7 S n pp))) (d_o S n pp)).trans x3, Or.inl ⟨q7, row2, _, x4, x5, x6, (wnew_o (W := (wset W 8 (ct S (d_7 S n pp)))) hN _).ext x3⟩⟩
  · have ef : d_f S n pp = ((on_p S n (dg_p S n (d_3 S n pp) (nI 0) (nI 5)) 2), (dg_v S n (d_3 S n pp) (nI 0) (nI 5)), (on_v S n (dg_p S n (d_3 S n pp) (nI 0) (nI 5)) 2), (-1001)) := by unfold d_f d_fin; rw [k0]; rw [if_neg (by decide), if_pos rfl]
    have hb4 := dg_b (T := S) (n := n) (p := d_3 S n pp) (a := nI 0) (b := nI 5) (B := 504) (by omega) (by omega)
    have hb5 := on_b (T := S) (n := n) (i := 2) (B := 505) hb4 (by omega)
    have hb6 := dg_b (T := S) (n := n) (a := nI 1) (b := nI 3) (B := 506) hb5 (by omega)
    have hb7 := dg_b (T := S) (n := n) (p := d_3 S n pp) (a := nI 0) (b := nI 3) (B := 504) (by omega) (by omega)
    have ko : [Value.int (d_c S n pp), .int (nI 1), .int (dg_v S n (d_3 S n pp) (nI 0) (nI 5)), .int (on_v S n (dg_p S n (d_3 S n pp) (nI 0) (nI 5)) 2), .int (-1001)] = [.int (d_o S n pp 0), .int (d_o S n pp 1), .int (d_o S n pp 2), .int (d_o S n pp 3), .int (d_o S n pp 4)] := by
      show _ = [Value.int (d_c S n pp), .int (d_k S n pp), .int (d_f S n pp).2.1, .int (d_f S n pp).2.2.1, .int (d_f S n pp).2.2.2]
      rw [k0, ef]
    rw [k0]
    refine v_iload_n X rfl dX3_readOrder_33 ?_
    refine v_if_eq_f (tgt := 42) X dX3_readOrder_34 (by decide) (by decide) ?_
    refine v_iload_n X rfl dX3_readOrder_37 ?_
    refine v_iconst' X kc_1 dX3_readOrder_38 ?_
    refine v_icmp_ne_f (tgt := 57) X dX3_readOrder_39 (by decide) (by decide) ?_
    refine v_aload_n X rfl dX3_readOrder_42 ?_
    refine v_iconst' X kc_0 dX3_readOrder_43 ?_
    refine v_iconst' X kc_5 dX3_readOrder_44 ?_
    refine v_callV (ci := 4) X mv_X3_53 (k_dig l γ W S (d_3 S n pp) n hn h60 (by omega) (nI 0) (nI 5)) rfl rfl (rd_Text γ _) rfl ⟨Nat.le_of_ble_eq_true rfl, Nat.le_of_ble_eq_true rfl, Nat.le_of_ble_eq_true rfl, Nat.le_of_ble_eq_true rfl⟩ (Nat.le_of_ble_eq_true rfl) rfl dX3_readOrder_45 rfl (det_i ?_)
    refine v_istore_n X (Nat.le_of_ble_eq_true rfl) rfl dX3_readOrder_48 ?_
    refine v_aload_n X rfl dX3_readOrder_49 ?_
    refine v_ldcS X (cx_R X).2.2.1 dX3_readOrder_50 ?_
    refine v_callV (ci := 4) X mv_X3_43 (k_one l γ W S (dg_p S n (d_3 S n pp) (nI 0) (nI 5)) n hn h60 (by omega) hb 2 (by decide)) rfl rfl (rd_Text γ _) rfl ⟨Nat.le_of_ble_eq_true rfl, Nat.le_of_ble_eq_true rfl, Nat.le_of_ble_eq_true rfl, Nat.le_of_ble_eq_true rfl⟩ (Nat.le_of_ble_eq_true rfl) rfl dX3_readOrder_52 rfl (det_i ?_)
    refine v_istore X (Nat.le_of_ble_eq_true rfl) rfl dX3_readOrder_55 ?_
    refine v_iload_n X rfl dX3_readOrder_57 ?_
    refine v_if_ne_t (tgt := 69) X dX3_readOrder_58 (by decide) (by decide) ?_
    refine v_iload_n X rfl dX3_readOrder_69 ?_
    refine v_iconst' X kc_2 dX3_readOrder_70 ?_
    refine v_icmp_ne_t (tgt := 82) X dX3_readOrder_71 (by decide) (by decide) ?_
    refine v_aload_n X rfl dX3_readOrder_82 ?_
    refine v_ldcS X (cx_R X).2.2.2 dX3_readOrder_83 ?_
    refine v_callV (ci := 4) X mv_X3_43 (k_one l γ W S (on_p S n (dg_p S n (d_3 S n pp) (nI 0) (nI 5)) 2) n hn h60 (by omega) hb 3 (by decide)) rfl rfl (rd_Text γ _) rfl ⟨Nat.le_of_ble_eq_true rfl, Nat.le_of_ble_eq_true rfl, Nat.le_of_ble_eq_true rfl, Nat.le_of_ble_eq_true rfl⟩ (Nat.le_of_ble_eq_true rfl) rfl dX3_readOrder_85 rfl (det_i ?_)
    rw [show on_p S n (on_p S n (dg_p S n (d_3 S n pp) (nI 0) (nI 5)) 2) 3 = d_7 S n pp from by unfold d_7; rw [ef]]
    refine v_pop X rfl dX3_readOrder_88 ?_
    refine v_aload_n X rfl dX3_readOrder_89 ?_
    refine v_getf X (v := (.int ((wset W 8 (ct S (d_7 S n pp))).1 8 61))) fd_X3_26 (rd_Text γ _) rfl dX3_readOrder_90 ?_
    rw [ws_same, ct_61]
    refine v_sipush' X ks_m1001 dX3_readOrder_93 ?_
    refine v_icmp_ne (tgt := 121) X dX3_readOrder_96 (by decide) (fun q7 => ?_) (fun q7 => ?_)
    · subst hQ0
      exact v_vret X rfl (Nat.le_of_ble_eq_true rfl) (Nat.le_of_ble_eq_true rfl) dX3_readOrder_121 ⟨rfl, (wset W 8 (ct S (d_7 S n pp))), rfl, rfl, fun c hc => rfl, Ext.ws _ _ _, Or.inr ⟨q7, rfl⟩⟩
    · refine v_aload_n X rfl dX3_readOrder_99 ?_
      refine v_getf X fd_X3_22 (rd_Text γ _) rfl dX3_readOrder_100 ?_
      refine v_new X nd_X3_61 (Nat.le_of_ble_eq_true rfl) (Nat.le_of_ble_eq_true rfl) dX3_readOrder_103 ?_
      refine v_dup X rfl dX3_readOrder_106 ?_
      refine v_iload_n X rfl dX3_readOrder_107 ?_
      refine v_iload_n X rfl dX3_readOrder_108 ?_
      refine v_iload_n X rfl dX3_readOrder_109 ?_
      refine v_iload X rfl dX3_readOrder_110 ?_
      refine v_iload X rfl dX3_readOrder_112 ?_
      refine v_callI X mi_X3_63 (c_X1_init l γ _ (wset W 8 (ct S (d_7 S n pp))).2.2.2.2 0 0 0 0 0 _ _ _ _ _ (hnew_at _ _)) rfl ⟨Nat.le_of_ble_eq_true rfl, Nat.le_of_ble_eq_true rfl, Nat.le_of_ble_eq_true rfl, Nat.le_of_ble_eq_true rfl⟩ (Nat.le_of_ble_eq_true rfl) rfl dX3_readOrder_114 rfl (det_v ?_)
      refine v_eqh (hset_hnew _ _ _) ?_
      rw [ko]
      refine v_eqh (new_ord γ (wset W 8 (ct S (d_7 S n pp))) hN (d_o S n pp)) ?_
      refine v_callV (ci := 0) X mv_X3_66 (k_add l γ (wnew (wset W 8 (ct S (d_7 S n pp))) (d_o S n pp)) 8 g row (by decide) _ rfl (hB.ext (wnew_x (wset W 8 (ct S (d_7 S n pp))) _) rfl) (Nat.le_succ_of_le hN) (hO.ext (wnew_x (wset W 8 (ct S (d_7 S n pp))) _)) (wset W 8 (ct S (d_7 S n pp))).2.2.2.2 (d_o S n pp) (wnew_o hN _) hg) rfl rfl (rd_TList γ _) rfl ⟨Nat.le_of_ble_eq_true rfl, Nat.le_of_ble_eq_true rfl, Nat.le_of_ble_eq_true rfl, Nat.le_of_ble_eq_true rfl⟩ (Nat.le_of_ble_eq_true rfl) rfl dX3_readOrder_117 rfl (nd_i (fun h9 hp9 => ?_))
      obtain ⟨W2, rfl, hA⟩ := hp9
      obtain ⟨x1, x2, x3, row2, x4, x5, x6⟩ := hA
      refine v_pop X rfl dX3_readOrder_120 ?_
      subst hQ0
      exact v_vret X rfl (Nat.le_of_ble_eq_true rfl) (Nat.le_of_ble_eq_true rfl) dX3_readOrder_121 ⟨rfl, W2, rfl, x1, fun c hc => x2 c hc, (wnew_x (wset W 8 (ct S (d_7 S n pp))) (d_o S n pp)).trans x3, Or.inl ⟨q7, row2, _, x4, x5, x6, (wnew_o (W := (wset W 8 (ct S (d_7 S n pp)))) hN _).ext x3⟩⟩
  · have ef : d_f S n pp = ((dg_p S n (d_3 S n pp) (nI 0) (nI 3)), (-1001), (-1001), (dg_v S n (d_3 S n pp) (nI 0) (nI 3))) := by unfold d_f d_fin; rw [k0]; rw [if_neg (by decide), if_neg (by decide), if_pos rfl]
    have hb4 := dg_b (T := S) (n := n) (p := d_3 S n pp) (a := nI 0) (b := nI 5) (B := 504) (by omega) (by omega)
    have hb5 := on_b (T := S) (n := n) (i := 2) (B := 505) hb4 (by omega)
    have hb6 := dg_b (T := S) (n := n) (a := nI 1) (b := nI 3) (B := 506) hb5 (by omega)
    have hb7 := dg_b (T := S) (n := n) (p := d_3 S n pp) (a := nI 0) (b := nI 3) (B := 504) (by omega) (by omega)
    have ko : [Value.int (d_c S n pp), .int (nI 2), .int (-1001), .int (-1001), .int (dg_v S n (d_3 S n pp) (nI 0) (nI 3))] = [.int (d_o S n pp 0), .int (d_o S n pp 1), .int (d_o S n pp 2), .int (d_o S n pp 3), .int (d_o S n pp 4)] := by
      show _ = [Value.int (d_c S n pp), .int (d_k S n pp), .int (d_f S n pp).2.1, .int (d_f S n pp).2.2.1, .int (d_f S n pp).2.2.2]
      rw [k0, ef]
    rw [k0]
    refine v_iload_n X rfl dX3_readOrder_33 ?_
    refine v_if_eq_f (tgt := 42) X dX3_readOrder_34 (by decide) (by decide) ?_
    refine v_iload_n X rfl dX3_readOrder_37 ?_
    refine v_iconst' X kc_1 dX3_readOrder_38 ?_
    refine v_icmp_ne_t (tgt := 57) X dX3_readOrder_39 (by decide) (by decide) ?_
    refine v_iload_n X rfl dX3_readOrder_57 ?_
    refine v_if_ne_t (tgt := 69) X dX3_readOrder_58 (by decide) (by decide) ?_
    refine v_iload_n X rfl dX3_readOrder_69 ?_
    refine v_iconst' X kc_2 dX3_readOrder_70 ?_
    refine v_icmp_ne_f (tgt := 82) X dX3_readOrder_71 (by decide) (by decide) ?_
    refine v_aload_n X rfl dX3_readOrder_74 ?_
    refine v_iconst' X kc_0 dX3_readOrder_75 ?_
    refine v_iconst' X kc_3 dX3_readOrder_76 ?_
    refine v_callV (ci := 4) X mv_X3_53 (k_dig l γ W S (d_3 S n pp) n hn h60 (by omega) (nI 0) (nI 3)) rfl rfl (rd_Text γ _) rfl ⟨Nat.le_of_ble_eq_true rfl, Nat.le_of_ble_eq_true rfl, Nat.le_of_ble_eq_true rfl, Nat.le_of_ble_eq_true rfl⟩ (Nat.le_of_ble_eq_true rfl) rfl dX3_readOrder_77 rfl (det_i ?_)
    refine v_istore X (Nat.le_of_ble_eq_true rfl) rfl dX3_readOrder_80 ?_
    refine v_aload_n X rfl dX3_readOrder_82 ?_
    refine v_ldcS X (cx_R X).2.2.2 dX3_readOrder_83 ?_
    refine v_callV (ci := 4) X mv_X3_43 (k_one l γ W S (dg_p S n (d_3 S n pp) (nI 0) (nI 3)) n hn h60 (by omega) hb 3 (by decide)) rfl rfl (rd_Text γ _) rfl ⟨Nat.le_of_ble_eq_true rfl, Nat.le_of_ble_eq_true rfl, Nat.le_of_ble_eq_true rfl, Nat.le_of_ble_eq_true rfl⟩ (Nat.le_of_ble_eq_true rfl) rfl dX3_readOrder_85 rfl (det_i ?_)
    rw [show on_p S n (dg_p S n (d_3 S n pp) (nI 0) (nI 3)) 3 = d_7 S n pp from by unfold d_7; rw [ef]]
    refine v_pop X rfl dX3_readOrder_88 ?_
    refine v_aload_n X rfl dX3_readOrder_89 ?_
    refine v_getf X (v := (.int ((wset W 8 (ct S (d_7 S n pp))).1 8 61))) fd_X3_26 (rd_Text γ _) rfl dX3_readOrder_90 ?_
    rw [ws_same, ct_61]
    refine v_sipush' X ks_m1001 dX3_readOrder_93 ?_
    refine v_icmp_ne (tgt := 121) X dX3_readOrder_96 (by decide) (fun q7 => ?_) (fun q7 => ?_)
    · subst hQ0
      exact v_vret X rfl (Nat.le_of_ble_eq_true rfl) (Nat.le_of_ble_eq_true rfl) dX3_readOrder_121 ⟨rfl, (wset W 8 (ct S (d_7 S n pp))), rfl, rfl, fun c hc => rfl, Ext.ws _ _ _, Or.inr ⟨q7, rfl⟩⟩
    · refine v_aload_n X rfl dX3_readOrder_99 ?_
      refine v_getf X fd_X3_22 (rd_Text γ _) rfl dX3_readOrder_100 ?_
      refine v_new X nd_X3_61 (Nat.le_of_ble_eq_true rfl) (Nat.le_of_ble_eq_true rfl) dX3_readOrder_103 ?_
      refine v_dup X rfl dX3_readOrder_106 ?_
      refine v_iload_n X rfl dX3_readOrder_107 ?_
      refine v_iload_n X rfl dX3_readOrder_108 ?_
      refine v_iload_n X rfl dX3_readOrder_109 ?_
      refine v_iload X rfl dX3_readOrder_110 ?_
      refine v_iload X rfl dX3_readOrder_112 ?_
      refine v_callI X mi_X3_63 (c_X1_init l γ _ (wset W 8 (ct S (d_7 S n pp))).2.2.2.2 0 0 0 0 0 _ _ _ _ _ (hnew_at _ _)) rfl ⟨Nat.le_of_ble_eq_true rfl, Nat.le_of_ble_eq_true rfl, Nat.le_of_ble_eq_true rfl, Nat.le_of_ble_eq_true rfl⟩ (Nat.le_of_ble_eq_true rfl) rfl dX3_readOrder_114 rfl (det_v ?_)
      refine v_eqh (hset_hnew _ _ _) ?_
      rw [ko]
      refine v_eqh (new_ord γ (wset W 8 (ct S (d_7 S n pp))) hN (d_o S n pp)) ?_
      refine v_callV (ci := 0) X mv_X3_66 (k_add l γ (wnew (wset W 8 (ct S (d_7 S n pp))) (d_o S n pp)) 8 g row (by decide) _ rfl (hB.ext (wnew_x (wset W 8 (ct S (d_7 S n pp))) _) rfl) (Nat.le_succ_of_le hN) (hO.ext (wnew_x (wset W 8 (ct S (d_7 S n pp))) _)) (wset W 8 (ct S (d_7 S n pp))).2.2.2.2 (d_o S n pp) (wnew_o hN _) hg) rfl rfl (rd_TList γ _) rfl ⟨Nat.le_of_ble_eq_true rfl, Nat.le_of_ble_eq_true rfl, Nat.le_of_ble_eq_true rfl, Nat.le_of_ble_eq_true rfl⟩ (Nat.le_of_ble_eq_true rfl) rfl dX3_readOrder_117 rfl (nd_i (fun h9 hp9 => ?_))
      obtain ⟨W2, rfl, hA⟩ := hp9
      obtain ⟨x1, x2, x3, row2, x4, x5, x6⟩ := hA
      refine v_pop X rfl dX3_readOrder_120 ?_
      subst hQ0
      exact v_vret X rfl (Nat.le_of_ble_eq_true rfl) (Nat.le_of_ble_eq_true rfl) dX3_readOrder_121 ⟨rfl, W2, rfl, x1, fun c hc => x2 c hc, (wnew_x (wset W 8 (ct S (d_7 S n pp))) (d_o S n pp)).trans x3, Or.inl ⟨q7, row2, _, x4, x5, x6, (wnew_o (W := (wset W 8 (ct S (d_7 S n pp)))) hN _).ext x3⟩⟩
  · have ef : d_f S n pp = ((d_3 S n pp), (-1001), (-1001), (-1001)) := by unfold d_f d_fin; rw [k0]; rw [if_neg (by decide), if_neg (by decide), if_neg (by decide)]
    have hb4 := dg_b (T := S) (n := n) (p := d_3 S n pp) (a := nI 0) (b := nI 5) (B := 504) (by omega) (by omega)
    have hb5 := on_b (T := S) (n := n) (i := 2) (B := 505) hb4 (by omega)
    have hb6 := dg_b (T := S) (n := n) (a := nI 1) (b := nI 3) (B := 506) hb5 (by omega)
    have hb7 := dg_b (T := S) (n := n) (p := d_3 S n pp) (a := nI 0) (b := nI 3) (B := 504) (by omega) (by omega)
    have ko : [Value.int (d_c S n pp), .int ((-1001)), .int (-1001), .int (-1001), .int (-1001)] = [.int (d_o S n pp 0), .int (d_o S n pp 1), .int (d_o S n pp 2), .int (d_o S n pp 3), .int (d_o S n pp 4)] := by
      show _ = [Value.int (d_c S n pp), .int (d_k S n pp), .int (d_f S n pp).2.1, .int (d_f S n pp).2.2.1, .int (d_f S n pp).2.2.2]
      rw [k0, ef]
    rw [k0]
    refine v_iload_n X rfl dX3_readOrder_33 ?_
    refine v_if_eq_f (tgt := 42) X dX3_readOrder_34 (by decide) (by decide) ?_
    refine v_iload_n X rfl dX3_readOrder_37 ?_
    refine v_iconst' X kc_1 dX3_readOrder_38 ?_
    refine v_icmp_ne_t (tgt := 57) X dX3_readOrder_39 (by decide) (by decide) ?_
    refine v_iload_n X rfl dX3_readOrder_57 ?_
    refine v_if_ne_t (tgt := 69) X dX3_readOrder_58 (by decide) (by decide) ?_
    refine v_iload_n X rfl dX3_readOrder_69 ?_
    refine v_iconst' X kc_2 dX3_readOrder_70 ?_
    refine v_icmp_ne_t (tgt := 82) X dX3_readOrder_71 (by decide) (by decide) ?_
    refine v_aload_n X rfl dX3_readOrder_82 ?_
    refine v_ldcS X (cx_R X).2.2.2 dX3_readOrder_83 ?_
    refine v_callV (ci := 4) X mv_X3_43 (k_one l γ W S (d_3 S n pp) n hn h60 (by omega) hb 3 (by decide)) rfl rfl (rd_Text γ _) rfl ⟨Nat.le_of_ble_eq_true rfl, Nat.le_of_ble_eq_true rfl, Nat.le_of_ble_eq_true rfl, Nat.le_of_ble_eq_true rfl⟩ (Nat.le_of_ble_eq_true rfl) rfl dX3_readOrder_85 rfl (det_i ?_)
    rw [show on_p S n (d_3 S n pp) 3 = d_7 S n pp from by unfold d_7; rw [ef]]
    refine v_pop X rfl dX3_readOrder_88 ?_
    refine v_aload_n X rfl dX3_readOrder_89 ?_
    refine v_getf X (v := (.int ((wset W 8 (ct S (d_7 S n pp))).1 8 61))) fd_X3_26 (rd_Text γ _) rfl dX3_readOrder_90 ?_
    rw [ws_same, ct_61]
    refine v_sipush' X ks_m1001 dX3_readOrder_93 ?_
    refine v_icmp_ne (tgt := 121) X dX3_readOrder_96 (by decide) (fun q7 => ?_) (fun q7 => ?_)
    · subst hQ0
      exact v_vret X rfl (Nat.le_of_ble_eq_true rfl) (Nat.le_of_ble_eq_true rfl) dX3_readOrder_121 ⟨rfl, (wset W 8 (ct S (d_7 S n pp))), rfl, rfl, fun c hc => rfl, Ext.ws _ _ _, Or.inr ⟨q7, rfl⟩⟩
    · refine v_aload_n X rfl dX3_readOrder_99 ?_
      refine v_getf X fd_X3_22 (rd_Text γ _) rfl dX3_readOrder_100 ?_
      refine v_new X nd_X3_61 (Nat.le_of_ble_eq_true rfl) (Nat.le_of_ble_eq_true rfl) dX3_readOrder_103 ?_
      refine v_dup X rfl dX3_readOrder_106 ?_
      refine v_iload_n X rfl dX3_readOrder_107 ?_
      refine v_iload_n X rfl dX3_readOrder_108 ?_
      refine v_iload_n X rfl dX3_readOrder_109 ?_
      refine v_iload X rfl dX3_readOrder_110 ?_
      refine v_iload X rfl dX3_readOrder_112 ?_
      refine v_callI X mi_X3_63 (c_X1_init l γ _ (wset W 8 (ct S (d_7 S n pp))).2.2.2.2 0 0 0 0 0 _ _ _ _ _ (hnew_at _ _)) rfl ⟨Nat.le_of_ble_eq_true rfl, Nat.le_of_ble_eq_true rfl, Nat.le_of_ble_eq_true rfl, Nat.le_of_ble_eq_true rfl⟩ (Nat.le_of_ble_eq_true rfl) rfl dX3_readOrder_114 rfl (det_v ?_)
      refine v_eqh (hset_hnew _ _ _) ?_
      rw [ko]
      refine v_eqh (new_ord γ (wset W 8 (ct S (d_7 S n pp))) hN (d_o S n pp)) ?_
      refine v_callV (ci := 0) X mv_X3_66 (k_add l γ (wnew (wset W 8 (ct S (d_7 S n pp))) (d_o S n pp)) 8 g row (by decide) _ rfl (hB.ext (wnew_x (wset W 8 (ct S (d_7 S n pp))) _) rfl) (Nat.le_succ_of_le hN) (hO.ext (wnew_x (wset W 8 (ct S (d_7 S n pp))) _)) (wset W 8 (ct S (d_7 S n pp))).2.2.2.2 (d_o S n pp) (wnew_o hN _) hg) rfl rfl (rd_TList γ _) rfl ⟨Nat.le_of_ble_eq_true rfl, Nat.le_of_ble_eq_true rfl, Nat.le_of_ble_eq_true rfl, Nat.le_of_ble_eq_true rfl⟩ (Nat.le_of_ble_eq_true rfl) rfl dX3_readOrder_117 rfl (nd_i (fun h9 hp9 => ?_))
      obtain ⟨W2, rfl, hA⟩ := hp9
      obtain ⟨x1, x2, x3, row2, x4, x5, x6⟩ := hA
      refine v_pop X rfl dX3_readOrder_120 ?_
      subst hQ0
      exact v_vret X rfl (Nat.le_of_ble_eq_true rfl) (Nat.le_of_ble_eq_true rfl) dX3_readOrder_121 ⟨rfl, W2, rfl, x1, fun c hc => x2 c hc, (wnew_x (wset W 8 (ct S (d_7 S n pp))) (d_o S n pp)).trans x3, Or.inl ⟨q7, row2, _, x4, x5, x6, (wnew_o (W := (wset W 8 (ct S (d_7 S n pp)))) hN _).ext x3⟩⟩
