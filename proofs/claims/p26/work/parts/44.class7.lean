/-! one list's orders put behind another's; a state taken from another -/
theorem rd_Lp (γ : Gm) (W : Wd) {j p : Nat} (hj : j < 9) (hp : p = γ.1 + lA j) : (rdw γ W).1 p = some (.inr (0, [.int (W.2.1 j).1, .ref (W.2.1 j).2.2.1, .int (nI (W.2.1 j).2.1)])) := by
  subst hp
  exact rd_List γ W hj
def AA (γ : Gm) (W W' : Wd) (j2 q2 i : Nat) (row1 row2 row' : Nat → Option Nat) : Prop := W'.1 = W.1 ∧ (∀ c, c ≠ j2 → W'.2.1 c = W.2.1 c) ∧ Ext W W' ∧ LB γ W' j2 (q2 + i) row' ∧ (∀ t, t < q2 → row' t = row2 t) ∧ ∀ t, t < i → row' (q2 + t) = row1 t
theorem AA_start {γ : Gm} {W : Wd} {j2 q2 : Nat} {row1 row2 : Nat → Option Nat} (h : LB γ W j2 q2 row2) : AA γ W W j2 q2 0 row1 row2 row2 := ⟨rfl, fun _ _ => rfl, Ext.refl W, h, fun _ _ => rfl, fun t z => absurd z (by omega)⟩
theorem upd_k {g A : Nat → Int32} {k i : Nat} (h : i = k ∨ g i = A i) : upd g k (A k) i = A i := by
  by_cases e : i = k
  · rw [e, pk_us]
  · rw [pk_un e]; exact h.resolve_left e
theorem pt_k {g A : Nat → Int32} {r i : Nat} (h : domB r i = true ∨ g i = A i) : pt r A g i = A i := by
  unfold pt
  split
  · rfl
  · rename_i z; exact h.resolve_left z
theorem cp_all (A g : Nat → Int32) {i : Nat} (hi : i < 233) (h2 : ¬ (168 ≤ i ∧ i < 218)) (h3 : i ≠ 223) : upd (upd (upd (upd (upd (ptT A (pt 3 A (pt 1 A g))) 222 (A 222)) 224 (A 224)) 225 (A 225)) 226 (A 226)) 227 (A 227) i = A i := by
  refine upd_k (Classical.or_iff_not_imp_left.mpr fun a1 => ?_)
  refine upd_k (Classical.or_iff_not_imp_left.mpr fun a2 => ?_)
  refine upd_k (Classical.or_iff_not_imp_left.mpr fun a3 => ?_)
  refine upd_k (Classical.or_iff_not_imp_left.mpr fun a4 => ?_)
  refine upd_k (Classical.or_iff_not_imp_left.mpr fun a5 => ?_)
  unfold ptT
  refine pt_k (Classical.or_iff_not_imp_left.mpr fun a6 => ?_)
  refine pt_k (Classical.or_iff_not_imp_left.mpr fun a7 => ?_)
  refine pt_k (Classical.or_iff_not_imp_left.mpr fun a8 => ?_)
  refine pt_k (Classical.or_iff_not_imp_left.mpr fun a9 => ?_)
  refine upd_k (Classical.or_iff_not_imp_left.mpr fun b1 => ?_)
  refine upd_k (Classical.or_iff_not_imp_left.mpr fun b2 => ?_)
  refine upd_k (Classical.or_iff_not_imp_left.mpr fun b3 => ?_)
  refine upd_k (Classical.or_iff_not_imp_left.mpr fun b4 => ?_)
  refine pt_k (Classical.or_iff_not_imp_left.mpr fun b5 => ?_)
  refine pt_k (Classical.or_iff_not_imp_left.mpr fun b6 => ?_)
  exfalso
  simp only [domB, decide_eq_true_eq] at a6 a7 a8 a9 b5 b6
  omega
set_option maxHeartbeats 4000000 in
set_option maxRecDepth 100000 in
theorem c_X6_addAll (l : Launch) (γ : Gm) (W : Wd) (j1 j2 q1 q2 : Nat) (row1 row2 : Nat → Option Nat) (hj1 : j1 < 9) (hj2 : j2 < 9) (hne : j1 ≠ j2) (p1 p2 : Nat) (hp1 : p1 = γ.1 + lA j1) (hp2 : p2 = γ.1 + lA j2) (hB1 : LB γ W j1 q1 row1) (hB2 : LB γ W j2 q2 row2) (hO1 : LO γ W row1 q1) (hO2 : LO γ W row2 q2) (h12 : q1 ≤ 12) (h15 : q2 + q1 ≤ 15) : Cr l γ yX6_addAll cX6_addAll 3 none 7 171 12 180 [.ref p1, .ref p2] (rdw γ W) (fun v h' => v = none ∧ ∃ (W' : Wd) (row' : Nat → Option Nat), h' = rdw γ W' ∧ AA γ W W' j2 q2 q1 row1 row2 row') := by
  obtain rfl := hB1.q0
  refine Cr_of [some (.ref p1), some (.ref p2), none] (by decide +kernel) (Nat.le_of_ble_eq_true rfl) rfl ?_
  intro p e s m args below meth c X
  refine v_q0 (fun Q0 hQ0 => ?_)
  refine v_iconst' X kc_0 dX6_addAll_0 ?_
  refine v_istore_n X (Nat.le_of_ble_eq_true rfl) rfl dX6_addAll_1 ?_
  refine v_iload_n X rfl dX6_addAll_2 ?_
  refine v_aload_n X rfl dX6_addAll_3 ?_
  refine v_callV (ci := 0) X mv_X6_116 (k_size l γ W j1 0 row1 hj1 _ hp1 hB1) rfl rfl (rd_Lp γ _ hj1 hp1) rfl ⟨Nat.le_of_ble_eq_true rfl, Nat.le_of_ble_eq_true rfl, Nat.le_of_ble_eq_true rfl, Nat.le_of_ble_eq_true rfl⟩ (Nat.le_of_ble_eq_true rfl) rfl dX6_addAll_4 rfl (det_i ?_)
  refine v_icmp_ge_t (tgt := 29) X dX6_addAll_7 (by decide) (by decide) ?_
  subst hQ0
  exact v_vret X rfl (Nat.le_of_ble_eq_true rfl) (Nat.le_of_ble_eq_true rfl) dX6_addAll_29 ⟨rfl, W, row2, rfl, AA_start hB2⟩
theorem cp_w {W W2 : Wd} {k : Nat} {G A : Nat → Int32} {v : LVt} (h : W2.1 = (wl (wset W k G) k v).1) : (wset W2 k A).1 = (wset W k A).1 := by
  funext c
  by_cases hc : c = k
  · subst hc; rw [ws_same, ws_same]
  · rw [ws_ne _ _ hc, ws_ne _ _ hc, h]; exact ws_ne _ _ hc
theorem cp_r {γ : Gm} {W W2 : Wd} {k q t : Nat} {row1 row2 row' : Nat → Option Nat} {M : Nat → Int32} {b : Nat} (hA : AA γ W W2 k 0 q row1 row2 row') (h : ∃ a, row1 t = some a ∧ OrdAt γ W a (fun z => M (b + 5 * t + z))) (ht : t < q) : ∃ a, row' t = some a ∧ OrdAt γ W2 a (fun z => M (b + 5 * t + z)) := by
  obtain ⟨a, b, c⟩ := h
  have h7 := hA.2.2.2.2.2 t ht
  rw [Nat.zero_add] at h7
  exact ⟨a, h7.trans b, c.ext hA.2.2.1⟩
set_option maxHeartbeats 4000000 in
set_option maxRecDepth 100000 in
theorem c_X2_copyFrom (l : Launch) (γ : Gm) (W : Wd) (k k1 : Nat) (g : Nat → Int32) (hk : k < 8) (hk1 : k1 < 8) (hne : k1 ≠ k) (q : Nat) (h10 : q ≤ 10) (hQ : LQ γ W k) (hL : LF γ W k1 168 q (W.1 k1)) : Cr l γ yX2_copyFrom cX2_copyFrom 2 none 8 193 12 180 [.ref (γ.1 + so k), .ref (γ.1 + so k1)] (rdw γ (wset W k g)) (fun v h' => v = none ∧ ∃ W' : Wd, h' = rdw γ W' ∧ W'.1 = (wset W k (W.1 k1)).1 ∧ (∀ c, c ≠ k → W'.2.1 c = W.2.1 c) ∧ Ext W W' ∧ LF γ W' k 168 q (W.1 k1)) := by
  refine Cr_of [some (.ref (γ.1 + so k)), some (.ref (γ.1 + so k1))] (by decide +kernel) (Nat.le_of_ble_eq_true rfl) rfl ?_
  intro p e s m args below meth c X
  refine v_q0 (fun Q0 hQ0 => ?_)
  obtain ⟨q0, row0, hB0, hO0⟩ := hQ
  obtain ⟨row1, hB1, hR1⟩ := hL
  refine v_aload_n X rfl dX2_copyFrom_0 ?_
  refine v_getf X fd_X2_9 (rz_State γ hk1 (ws_ne _ _ hne)) rfl dX2_copyFrom_1 ?_
  refine v_aload_n X rfl dX2_copyFrom_4 ?_
  refine v_getf X fd_X2_9 (rd_State γ _ _ hk) rfl dX2_copyFrom_5 ?_
  refine v_callSN X msn_X2_52 (c_X6_copyRow l γ _ _ _ 5 (vw 5 f_set (W.1 k1)) (vw 5 f_set _) (by decide) (rz_Settings γ hk1 (ws_ne _ _ hne)) (rd_Settings γ W _ hk)) rfl ⟨Nat.le_of_ble_eq_true rfl, Nat.le_of_ble_eq_true rfl, Nat.le_of_ble_eq_true rfl, Nat.le_of_ble_eq_true rfl⟩ (Nat.le_of_ble_eq_true rfl) rfl dX2_copyFrom_8 rfl (det_v ?_)
  rw [cpy_vw, up_pset γ W _ _ hk]
  refine v_aload_n X rfl dX2_copyFrom_11 ?_
  refine v_getf X fd_X2_18 (rz_State γ hk1 (ws_ne _ _ hne)) rfl dX2_copyFrom_12 ?_
  refine v_getf X fd_X2_56 (rz_Track γ hk1 (ws_ne _ _ hne)) rfl dX2_copyFrom_15 ?_
  refine v_aload_n X rfl dX2_copyFrom_18 ?_
  refine v_getf X fd_X2_18 (rd_State γ _ _ hk) rfl dX2_copyFrom_19 ?_
  refine v_getf X fd_X2_56 (rd_Track γ _ _ hk) rfl dX2_copyFrom_22 ?_
  refine v_callSN X msn_X2_52 (c_X6_copyRow l γ _ _ _ 120 (vw 120 f_hts (W.1 k1)) (vw 120 f_hts _) (by decide) (rz_Heights γ hk1 (ws_ne _ _ hne)) (rd_Heights γ W _ hk)) rfl ⟨Nat.le_of_ble_eq_true rfl, Nat.le_of_ble_eq_true rfl, Nat.le_of_ble_eq_true rfl, Nat.le_of_ble_eq_true rfl⟩ (Nat.le_of_ble_eq_true rfl) rfl dX2_copyFrom_25 rfl (det_v ?_)
  rw [cpy_vw, up_phts γ W _ _ hk]
  refine v_aload_n X rfl dX2_copyFrom_28 ?_
  refine v_getf X fd_X2_25 (rd_State γ _ _ hk) rfl dX2_copyFrom_29 ?_
  refine v_aload_n X rfl dX2_copyFrom_32 ?_
  refine v_getf X fd_X2_25 (rz_State γ hk1 (ws_ne _ _ hne)) rfl dX2_copyFrom_33 ?_
  refine v_callV (ci := 5) X mv_X2_59 (c_X5_copyFrom l γ W k k1 _ hk hk1 hne) rfl rfl (rd_Train γ _ _ hk) rfl ⟨Nat.le_of_ble_eq_true rfl, Nat.le_of_ble_eq_true rfl, Nat.le_of_ble_eq_true rfl, Nat.le_of_ble_eq_true rfl⟩ (Nat.le_of_ble_eq_true rfl) rfl dX2_copyFrom_36 rfl (det_v ?_)
  refine v_aload_n X rfl dX2_copyFrom_39 ?_
  refine v_getf X fd_X2_32 (rd_State γ _ _ hk) rfl dX2_copyFrom_40 ?_
  refine v_callV (ci := 0) X mv_X2_63 (k_clear l γ (wset W k _) k q0 row0 (by omega) _ (lA_so γ hk) hB0) rfl rfl (rd_SList γ _ hk) rfl ⟨Nat.le_of_ble_eq_true rfl, Nat.le_of_ble_eq_true rfl, Nat.le_of_ble_eq_true rfl, Nat.le_of_ble_eq_true rfl⟩ (Nat.le_of_ble_eq_true rfl) rfl dX2_copyFrom_43 rfl (nd_v (fun h9 hp9 => ?_))
  obtain ⟨v2, row2, rfl, hB2⟩ := hp9
  refine v_aload_n X rfl dX2_copyFrom_46 ?_
  refine v_getf X fd_X2_32 (rz_State γ hk1 (ws_ne _ _ hne)) rfl dX2_copyFrom_47 ?_
  refine v_aload_n X rfl dX2_copyFrom_50 ?_
  refine v_getf X fd_X2_32 (rz_State γ hk (ws_same _ _ _)) rfl dX2_copyFrom_51 ?_
  refine v_callSN X msn_X2_66 (c_X6_addAll l γ (wl (wset W k _) k v2) k1 k q 0 row1 row2 (by omega) (by omega) hne _ _ (lA_so γ hk1) (lA_so γ hk) (hB1.ext (Ext.wl _ _ _) (wl_ne _ _ hne)) hB2 hR1.lo (fun t z => absurd z (by omega)) (by omega) (by omega)) rfl ⟨Nat.le_of_ble_eq_true rfl, Nat.le_of_ble_eq_true rfl, Nat.le_of_ble_eq_true rfl, Nat.le_of_ble_eq_true rfl⟩ (Nat.le_of_ble_eq_true rfl) rfl dX2_copyFrom_54 rfl (nd_v (fun h9 hp9 => ?_))
  obtain ⟨W2, row3, rfl, hA⟩ := hp9
  have e1 : W2.1 k1 = W.1 k1 := by rw [hA.1]; exact ws_ne _ _ hne
  refine v_eqh (h' := rdw γ (wset W2 k (ptT (W.1 k1) (pt 3 (W.1 k1) (pt 1 (W.1 k1) g))))) (by rw [show ptT (W.1 k1) (pt 3 (W.1 k1) (pt 1 (W.1 k1) g)) = W2.1 k from by rw [hA.1]; exact (ws_same _ _ _).symm, wset_self]) ?_
  refine v_aload_n X rfl dX2_copyFrom_57 ?_
  refine v_aload_n X rfl dX2_copyFrom_58 ?_
  refine v_getf X (v := .int ((W.1 k1) 222)) fd_X2_36 (rz_State γ hk1 ((ws_ne _ _ hne).trans e1)) rfl dX2_copyFrom_59 ?_
  refine v_putf X fp_X2_36 (rd_State γ _ _ hk) rfl rfl (Nat.le_of_ble_eq_true rfl) dX2_copyFrom_62 ?_
  refine v_eqh (up_time γ _ _ hk _) ?_
  refine v_aload_n X rfl dX2_copyFrom_65 ?_
  refine v_aload_n X rfl dX2_copyFrom_66 ?_
  refine v_getf X (v := .int ((W.1 k1) 224)) fd_X2_40 (rz_State γ hk1 ((ws_ne _ _ hne).trans e1)) rfl dX2_copyFrom_67 ?_
  refine v_putf X fp_X2_40 (rd_State γ _ _ hk) rfl rfl (Nat.le_of_ble_eq_true rfl) dX2_copyFrom_70 ?_
  refine v_eqh (up_jams γ _ _ hk _) ?_
  refine v_aload_n X rfl dX2_copyFrom_73 ?_
  refine v_aload_n X rfl dX2_copyFrom_74 ?_
  refine v_getf X (v := .int ((W.1 k1) 225)) fd_X2_43 (rz_State γ hk1 ((ws_ne _ _ hne).trans e1)) rfl dX2_copyFrom_75 ?_
  refine v_putf X fp_X2_43 (rd_State γ _ _ hk) rfl rfl (Nat.le_of_ble_eq_true rfl) dX2_copyFrom_78 ?_
  refine v_eqh (up_loaded γ _ _ hk _) ?_
  refine v_aload_n X rfl dX2_copyFrom_81 ?_
  refine v_aload_n X rfl dX2_copyFrom_82 ?_
  refine v_getf X (v := .int ((W.1 k1) 226)) fd_X2_46 (rz_State γ hk1 ((ws_ne _ _ hne).trans e1)) rfl dX2_copyFrom_83 ?_
  refine v_putf X fp_X2_46 (rd_State γ _ _ hk) rfl rfl (Nat.le_of_ble_eq_true rfl) dX2_copyFrom_86 ?_
  refine v_eqh (up_lost γ _ _ hk _) ?_
  refine v_aload_n X rfl dX2_copyFrom_89 ?_
  refine v_aload_n X rfl dX2_copyFrom_90 ?_
  refine v_getf X (v := .int ((W.1 k1) 227)) fd_X2_49 (rz_State γ hk1 ((ws_ne _ _ hne).trans e1)) rfl dX2_copyFrom_91 ?_
  refine v_putf X fp_X2_49 (rd_State γ _ _ hk) rfl rfl (Nat.le_of_ble_eq_true rfl) dX2_copyFrom_94 ?_
  refine v_eqh (up_taken γ _ _ hk _) ?_
  subst hQ0
  exact v_vret X rfl (Nat.le_of_ble_eq_true rfl) (Nat.le_of_ble_eq_true rfl) dX2_copyFrom_97 ⟨rfl, wset W2 k (W.1 k1), rdw_ext γ _ hk (fun i a b c => cp_all _ _ a b c), cp_w hA.1, fun c hc => (hA.2.1 c hc).trans (wl_ne _ _ hc), hA.2.2.1, row3, by have h7 := hA.2.2.2.1; rw [Nat.zero_add] at h7; exact h7, fun t ht => (show ∃ a, row3 t = some a ∧ OrdAt γ W2 a (fun z => (W.1 k1) (168 + 5 * t + z)) from cp_r hA (hR1 t ht) ht)⟩
theorem sec_oq {M : Nat → Int32} {cn q q2 : Nat} {B : Int} (hv : VS M cn q B) (h : OQ (q_pre M) q2) : OQ (q_second M) q2 := h.congr (fun i a b => q_second_eq hv.vm a (by omega) (by omega) (by omega)) (q_second_eq hv.vm (by omega) (by omega) (by omega) (by omega))
set_option maxHeartbeats 4000000 in
set_option maxRecDepth 100000 in
theorem c_X2_passSecond (l : Launch) (γ : Gm) (w : Wd) (g : Nat → Int32) (k : Nat) (hk : k < 8) (cn q : Nat) (B : Int) (hv : VS g cn q B) (hB : B + 3600 < 1000000000) (hL : LF γ w k 168 q g) : Cr l γ yX2_passSecond cX2_passSecond 1 none 4 109 0 0 [.ref (γ.1 + so k)] (rdw γ (wset w k g)) (fun v h' => v = none ∧ ∃ (v2 : LVt) (q2 : Nat), h' = rdw γ (wset (wl w k v2) k (q_second g)) ∧ q2 ≤ q ∧ OQ (q_second g) q2 ∧ LF γ (wl w k v2) k 168 q2 (q_second g)) := by
  refine Cr_of [some (.ref (γ.1 + so k))] (by decide +kernel) (Nat.le_of_ble_eq_true rfl) rfl ?_
  intro p e s m args below meth c X
  refine v_q0 (fun Q0 hQ0 => ?_)
  obtain ⟨hE, q1, hq1, hV⟩ := VS_pre hv
  have h10 := hv.2.1.2.1
  have hc := hv.1.1
  have h6 := hv.1.2.2
  obtain ⟨f1, f2⟩ := fallsN_s h6 hV.2.2.1 hV.2.2.2.1 hB (3 * cn) (by omega)
  have f3 : HB (q_fallsN (q_pre g) (3 * cn)) (B + 3600) := f2.mono (by omega)
  have es : ∀ i, 228 ≤ i → i < 233 → (q_fallsN (q_pre g) (3 * cn)) i = q_pre g i := fun i h3 h4 => q_fallsN_off _ (by omega) (by omega) (by omega)
  have g5 : TP (q_spillsN (q_slidesN (q_fallsN (q_pre g) (3 * cn)) 117) 40) cn := (f1.congr (N := (q_slidesN (q_fallsN (q_pre g) (3 * cn)) 117)) fun i a b => q_slidesN_off _ (by omega) (by omega)).congr fun i a b => q_spillsN_off _ (by omega) (by omega) (by omega)
  refine v_aload_n X rfl dX2_passSecond_0 ?_
  refine v_getf X fd_X2_25 (rd_State γ _ _ hk) rfl dX2_passSecond_1 ?_
  refine v_callV (ci := 5) X mv_X2_70 (c_X5_move l γ w g k hk) rfl rfl (rd_Train γ _ _ hk) rfl ⟨Nat.le_of_ble_eq_true rfl, Nat.le_of_ble_eq_true rfl, Nat.le_of_ble_eq_true rfl, Nat.le_of_ble_eq_true rfl⟩ (Nat.le_of_ble_eq_true rfl) rfl dX2_passSecond_4 rfl (det_v ?_)
  refine v_aload_n X rfl dX2_passSecond_7 ?_
  refine v_callV (ci := 2) X mv_X2_73 (c_X2_carryOutOrders l γ w (q_place (q_speed g)) k hk cn q ((q_pp_off g (by decide) (by decide)).trans hc) hv.1.2.1 h6 (OQ_pp hv.2.1) (TP_pp hv.2.2.1) (hL.congr fun i a b => q_pp_off g (by omega) (by omega))) rfl rfl (rd_State γ _ _ hk) rfl ⟨Nat.le_of_ble_eq_true rfl, Nat.le_of_ble_eq_true rfl, Nat.le_of_ble_eq_true rfl, Nat.le_of_ble_eq_true rfl⟩ (Nat.le_of_ble_eq_true rfl) rfl dX2_passSecond_8 rfl (nd_v (fun h9 hp9 => ?_))
  obtain ⟨v2, q2, rfl, hq2, hQ, hF⟩ := hp9
  rw [← hE] at hQ hF ⊢
  refine v_aload_n X rfl dX2_passSecond_11 ?_
  refine v_callV (ci := 2) X mv_X2_76 (c_X2_unload l γ (wl w k v2) (q_pre g) k hk cn hV.1.1 h6) rfl rfl (rd_State γ _ _ hk) rfl ⟨Nat.le_of_ble_eq_true rfl, Nat.le_of_ble_eq_true rfl, Nat.le_of_ble_eq_true rfl, Nat.le_of_ble_eq_true rfl⟩ (Nat.le_of_ble_eq_true rfl) rfl dX2_passSecond_12 rfl (det_v ?_)
  refine v_aload_n X rfl dX2_passSecond_15 ?_
  refine v_getf X fd_X2_18 (rd_State γ _ _ hk) rfl dX2_passSecond_16 ?_
  refine v_aload_n X rfl dX2_passSecond_19 ?_
  refine v_getf X fd_X2_9 (rd_State γ _ _ hk) rfl dX2_passSecond_20 ?_
  refine v_iconst' X kc_0 dX2_passSecond_23 ?_
  refine v_iald' X (v := ((q_fallsN (q_pre g) (3 * cn)) (228 + (0)))) (rd_Settings γ _ _ hk) (0) rfl (by omega) (by decide) (vw_at (by omega)) dX2_passSecond_24 ?_
  refine v_callV (ci := 4) X mv_X2_79 (c_X4_slide l γ (wl w k v2) (q_fallsN (q_pre g) (3 * cn)) k hk (B + 3600) f3 hB (by rw [es 228 (by omega) (by omega)]; exact SR_0 hV.2.2.2.2)) rfl rfl (rd_Track γ _ _ hk) rfl ⟨Nat.le_of_ble_eq_true rfl, Nat.le_of_ble_eq_true rfl, Nat.le_of_ble_eq_true rfl, Nat.le_of_ble_eq_true rfl⟩ (Nat.le_of_ble_eq_true rfl) rfl dX2_passSecond_25 rfl (det_v ?_)
  refine v_aload_n X rfl dX2_passSecond_28 ?_
  refine v_dup X rfl dX2_passSecond_29 ?_
  refine v_getf X (v := .int ((q_slidesN (q_fallsN (q_pre g) (3 * cn)) 117) 226)) fd_X2_46 (rd_State γ _ _ hk) rfl dX2_passSecond_30 ?_
  refine v_aload_n X rfl dX2_passSecond_33 ?_
  refine v_getf X fd_X2_18 (rd_State γ _ _ hk) rfl dX2_passSecond_34 ?_
  refine v_aload_n X rfl dX2_passSecond_37 ?_
  refine v_getf X fd_X2_9 (rd_State γ _ _ hk) rfl dX2_passSecond_38 ?_
  refine v_iconst' X kc_1 dX2_passSecond_41 ?_
  refine v_iald' X (v := ((q_slidesN (q_fallsN (q_pre g) (3 * cn)) 117) (228 + (1)))) (rd_Settings γ _ _ hk) (1) rfl (by omega) (by decide) (vw_at (by omega)) dX2_passSecond_42 ?_
  refine v_callV (ci := 4) X mv_X2_83 (c_X4_cutShoulders l γ (wl w k v2) (q_slidesN (q_fallsN (q_pre g) (3 * cn)) 117) k hk) rfl rfl (rd_Track γ _ _ hk) rfl ⟨Nat.le_of_ble_eq_true rfl, Nat.le_of_ble_eq_true rfl, Nat.le_of_ble_eq_true rfl, Nat.le_of_ble_eq_true rfl⟩ (Nat.le_of_ble_eq_true rfl) rfl dX2_passSecond_43 rfl (det_i ?_)
  refine v_iadd X dX2_passSecond_46 ?_
  rw [add_back]
  refine v_putf X fp_X2_46 (rd_State γ _ _ hk) rfl rfl (Nat.le_of_ble_eq_true rfl) dX2_passSecond_47 ?_
  refine v_eqh (up_lost γ _ _ hk _) ?_
  rw [upd_upd, upd_same rfl]
  refine v_aload_n X rfl dX2_passSecond_50 ?_
  refine v_dup X rfl dX2_passSecond_51 ?_
  refine v_getf X (v := .int ((q_spillsN (q_slidesN (q_fallsN (q_pre g) (3 * cn)) 117) 40) 224)) fd_X2_40 (rd_State γ _ _ hk) rfl dX2_passSecond_52 ?_
  refine v_aload_n X rfl dX2_passSecond_55 ?_
  refine v_getf X fd_X2_25 (rd_State γ _ _ hk) rfl dX2_passSecond_56 ?_
  refine v_aload_n X rfl dX2_passSecond_59 ?_
  refine v_getf X fd_X2_9 (rd_State γ _ _ hk) rfl dX2_passSecond_60 ?_
  refine v_iconst' X kc_3 dX2_passSecond_63 ?_
  refine v_iald' X (v := ((q_spillsN (q_slidesN (q_fallsN (q_pre g) (3 * cn)) 117) 40) (228 + (3)))) (rd_Settings γ _ _ hk) (3) rfl (by omega) (by decide) (vw_at (by omega)) dX2_passSecond_64 ?_
  refine v_callV (ci := 5) X mv_X2_87 (c_X5_closeFurther l γ (wl w k v2) (q_spillsN (q_slidesN (q_fallsN (q_pre g) (3 * cn)) 117) 40) k hk cn h6 g5.2.2) rfl rfl (rd_Train γ _ _ hk) rfl ⟨Nat.le_of_ble_eq_true rfl, Nat.le_of_ble_eq_true rfl, Nat.le_of_ble_eq_true rfl, Nat.le_of_ble_eq_true rfl⟩ (Nat.le_of_ble_eq_true rfl) rfl dX2_passSecond_65 rfl (det_i ?_)
  refine v_iadd X dX2_passSecond_68 ?_
  rw [add_back]
  refine v_putf X fp_X2_40 (rd_State γ _ _ hk) rfl rfl (Nat.le_of_ble_eq_true rfl) dX2_passSecond_69 ?_
  refine v_eqh (up_jams γ _ _ hk _) ?_
  rw [upd_upd, upd_same rfl]
  refine v_aload_n X rfl dX2_passSecond_72 ?_
  refine v_dup X rfl dX2_passSecond_73 ?_
  refine v_getf X (v := .int ((q_closesN (q_spillsN (q_slidesN (q_fallsN (q_pre g) (3 * cn)) 117) 40) (3 * cn)) 222)) fd_X2_36 (rd_State γ _ _ hk) rfl dX2_passSecond_74 ?_
  refine v_iconst' X kc_1 dX2_passSecond_77 ?_
  refine v_iadd X dX2_passSecond_78 ?_
  refine v_putf X fp_X2_36 (rd_State γ _ _ hk) rfl rfl (Nat.le_of_ble_eq_true rfl) dX2_passSecond_79 ?_
  refine v_eqh (up_time γ _ _ hk _) ?_
  subst hQ0
  exact v_vret X rfl (Nat.le_of_ble_eq_true rfl) (Nat.le_of_ble_eq_true rfl) dX2_passSecond_82 ⟨rfl, v2, q2, by rw [q_second1 hc h6]; rfl, hq2, sec_oq hv hQ, hF.congr fun i a b => q_second_eq hv.vm a (by have := hQ.2.1; omega) (by have := hQ.2.1; omega) (by have := hQ.2.1; omega)⟩
