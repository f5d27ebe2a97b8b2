/-! an order: when it is due, what it does -/
def o_due (g : Nat → Int32) (cn : Nat) (o : Nat → Int32) : Int32 := if o 1 = nI 2 then bi (¬ g 219 < o 0) else bi ((¬ o 2 < nI 0 ∧ ¬ nI (cn - 1) < o 2) ∧ ¬ (g 219 - nI 4 * o 2) < o 0)
def o_act (g : Nat → Int32) (o : Nat → Int32) : Nat → Int32 := if o 1 = nI 2 then upd g 221 (o 4) else q_moves g (o 2).toNatClampNeg (o 3).toNatClampNeg (if o 1 = 0 then o 4 else nI 0)
theorem o_due_q {M : Nat → Int32} {cn i : Nat} {o : Nat → Int32} (h : ∀ z, z < 5 → o z = M (168 + 5 * i + z)) : o_due M cn o = q_due M cn i := by
  unfold o_due
  rw [h 0 (by decide), h 1 (by decide), h 2 (by decide)]
  rfl
theorem o_act_q {M : Nat → Int32} {i : Nat} {o : Nat → Int32} (h : ∀ z, z < 5 → o z = M (168 + 5 * i + z)) : o_act M o = q_act M i := by
  unfold o_act
  rw [h 1 (by decide), h 2 (by decide), h 3 (by decide), h 4 (by decide)]
  rfl
/-- what an order that is carried out must name -/
def ODo (cn : Nat) (o : Nat → Int32) : Prop := ¬ o 1 = nI 2 → ∃ a b : Nat, a < cn ∧ b < 3 ∧ o 2 = nI a ∧ o 3 = nI b ∧ (o 1 = nI 0 → ¬ o 4 ≤ 0)
theorem ODo_of {M : Nat → Int32} {cn i : Nat} {o : Nat → Int32} (h1 : 1 ≤ cn) (h6 : cn ≤ 6) (ho : OVo o) (h : ∀ z, z < 5 → o z = M (168 + 5 * i + z)) (hd : ¬ q_due M cn i = 0) : ODo cn o := by
  intro z
  obtain ⟨w, d, b1, b2, b3, b4, b5⟩ := ho.resolve_left z
  exact ⟨w, d, due_lt h1 h6 b1 (by rw [← h 1 (by decide)]; exact z) (by rw [← h 2 (by decide)]; exact b3) hd, b2, b3, b4, b5⟩
set_option maxHeartbeats 4000000 in
set_option maxRecDepth 100000 in
theorem c_X1_isDue (l : Launch) (γ : Gm) (w : Wd) (g : Nat → Int32) (k : Nat) (hk : k < 8) (cn : Nat) (hc : g 218 = nI cn) (h6 : cn ≤ 6) (h1 : 1 ≤ cn) (a : Nat) (o : Nat → Int32) (ha : γ.1 + 92 ≤ a) (hy : w.2.2.1 a = some (.inr o)) (ho : OVo o) : Cr l γ yX1_isDue cX1_isDue 2 (some .boolean) 1 22 0 0 [.ref a, .ref (γ.1 + so k + 4)] (rdw γ (wset w k g)) (Det (some (.int (o_due g cn o))) (rdw γ (wset w k (g)))) := by
  refine Cr_of [some (.ref a), some (.ref (γ.1 + so k + 4))] (by decide +kernel) (Nat.le_of_ble_eq_true rfl) rfl ?_
  intro p e s m args below meth c X
  refine v_q0 (fun Q0 hQ0 => ?_)
  refine v_aload_n X rfl dX1_isDue_0 ?_
  refine v_getf X (v := (.int (o 1))) fd_X1_15 (rd_Ord γ _ ha hy) rfl dX1_isDue_1 ?_
  refine v_iconst' X kc_2 dX1_isDue_4 ?_
  refine v_icmp_ne (tgt := 25) X dX1_isDue_5 (by decide) (fun q1 => ?_) (fun q1 => ?_)
  · obtain ⟨a1, b1, ha1, hb1, e2, e3, -⟩ := ho.resolve_left q1
    refine v_aload_n X rfl dX1_isDue_25 ?_
    refine v_aload_n X rfl dX1_isDue_26 ?_
    refine v_getf X (v := (.int (o 2))) fd_X1_18 (rd_Ord γ _ ha hy) rfl dX1_isDue_27 ?_
    rw [e2]
    refine v_aload_n X rfl dX1_isDue_30 ?_
    refine v_getf X (v := (.int (o 3))) fd_X1_21 (rd_Ord γ _ ha hy) rfl dX1_isDue_31 ?_
    rw [e3]
    refine v_callV (ci := 6) X mv_X1_32 (c_X5_hasDoor l γ w g k hk cn hc h6 h1 _ _) rfl rfl (rd_Train γ _ _ hk) rfl ⟨Nat.le_of_ble_eq_true rfl, Nat.le_of_ble_eq_true rfl, Nat.le_of_ble_eq_true rfl, Nat.le_of_ble_eq_true rfl⟩ (Nat.le_of_ble_eq_true rfl) rfl dX1_isDue_34 rfl (det_i ?_)
    refine v_if_eq_b (tgt := 59) X dX1_isDue_37 (by decide) (fun q3 => ?_) (fun q3 => ?_)
    · refine v_iconst' X kc_0 dX1_isDue_59 ?_
      subst hQ0
      exact v_zret X rfl rfl (Nat.le_of_ble_eq_true rfl) (Nat.le_of_ble_eq_true rfl) dX1_isDue_60 ⟨so_some (by unfold o_due; first | (rw [if_pos q1]; first | exact bi_t q2 | exact bi_f (fun z => z q2)) | (rw [if_neg q1, e2, pk_mul]; first | exact bi_f (fun z => q3 ⟨z.1, nI_in0 (by omega) (by decide)⟩) | exact bi_t ⟨q3.1, q4⟩ | exact bi_f (fun z => z.2 q4))), rfl⟩
    · have ha2 : a1 < cn := by
        have h8 : ¬ cn - 1 < a1 := fun z => q3.1.2 ((nI_ltI (by omega) (by omega)).mpr z)
        omega
      refine v_aload_n X rfl dX1_isDue_40 ?_
      refine v_aload_n X rfl dX1_isDue_41 ?_
      refine v_getf X (v := (.int (o 2))) fd_X1_18 (rd_Ord γ _ ha hy) rfl dX1_isDue_42 ?_
      rw [e2]
      refine v_callV (ci := 6) X mv_X1_36 (c_X5_cellBelow l γ w g k hk a1 (by omega)) rfl rfl (rd_Train γ _ _ hk) rfl ⟨Nat.le_of_ble_eq_true rfl, Nat.le_of_ble_eq_true rfl, Nat.le_of_ble_eq_true rfl, Nat.le_of_ble_eq_true rfl⟩ (Nat.le_of_ble_eq_true rfl) rfl dX1_isDue_45 rfl (det_i ?_)
      refine v_aload_n X rfl dX1_isDue_48 ?_
      refine v_getf X fd_X1_9 (rd_Ord γ _ ha hy) rfl dX1_isDue_49 ?_
      refine v_icmp_lt (tgt := 59) X dX1_isDue_52 (by decide) (fun q4 => ?_) (fun q4 => ?_)
      · refine v_iconst' X kc_0 dX1_isDue_59 ?_
        subst hQ0
        exact v_zret X rfl rfl (Nat.le_of_ble_eq_true rfl) (Nat.le_of_ble_eq_true rfl) dX1_isDue_60 ⟨so_some (by unfold o_due; first | (rw [if_pos q1]; first | exact bi_t q2 | exact bi_f (fun z => z q2)) | (rw [if_neg q1, e2, pk_mul]; first | exact bi_f (fun z => q3 ⟨z.1, nI_in0 (by omega) (by decide)⟩) | exact bi_t ⟨q3.1, q4⟩ | exact bi_f (fun z => z.2 q4))), rfl⟩
      · refine v_iconst' X kc_1 dX1_isDue_55 ?_
        refine v_goto (tgt := 60) X dX1_isDue_56 (by decide) ?_
        subst hQ0
        exact v_zret X rfl rfl (Nat.le_of_ble_eq_true rfl) (Nat.le_of_ble_eq_true rfl) dX1_isDue_60 ⟨so_some (by unfold o_due; first | (rw [if_pos q1]; first | exact bi_t q2 | exact bi_f (fun z => z q2)) | (rw [if_neg q1, e2, pk_mul]; first | exact bi_f (fun z => q3 ⟨z.1, nI_in0 (by omega) (by decide)⟩) | exact bi_t ⟨q3.1, q4⟩ | exact bi_f (fun z => z.2 q4))), rfl⟩
  · refine v_aload_n X rfl dX1_isDue_8 ?_
    refine v_getf X (v := .int (g 219)) fd_X1_27 (rd_Train γ _ _ hk) rfl dX1_isDue_9 ?_
    refine v_aload_n X rfl dX1_isDue_12 ?_
    refine v_getf X (v := (.int (o 0))) fd_X1_9 (rd_Ord γ _ ha hy) rfl dX1_isDue_13 ?_
    refine v_icmp_lt (tgt := 23) X dX1_isDue_16 (by decide) (fun q2 => ?_) (fun q2 => ?_)
    · refine v_iconst' X kc_0 dX1_isDue_23 ?_
      subst hQ0
      exact v_zret X rfl rfl (Nat.le_of_ble_eq_true rfl) (Nat.le_of_ble_eq_true rfl) dX1_isDue_24 ⟨so_some (by unfold o_due; first | (rw [if_pos q1]; first | exact bi_t q2 | exact bi_f (fun z => z q2)) | (rw [if_neg q1, e2, pk_mul]; first | exact bi_f (fun z => q3 ⟨z.1, nI_in0 (by omega) (by decide)⟩) | exact bi_t ⟨q3.1, q4⟩ | exact bi_f (fun z => z.2 q4))), rfl⟩
    · refine v_iconst' X kc_1 dX1_isDue_19 ?_
      refine v_goto (tgt := 24) X dX1_isDue_20 (by decide) ?_
      subst hQ0
      exact v_zret X rfl rfl (Nat.le_of_ble_eq_true rfl) (Nat.le_of_ble_eq_true rfl) dX1_isDue_24 ⟨so_some (by unfold o_due; first | (rw [if_pos q1]; first | exact bi_t q2 | exact bi_f (fun z => z q2)) | (rw [if_neg q1, e2, pk_mul]; first | exact bi_f (fun z => q3 ⟨z.1, nI_in0 (by omega) (by decide)⟩) | exact bi_t ⟨q3.1, q4⟩ | exact bi_f (fun z => z.2 q4))), rfl⟩
set_option maxHeartbeats 4000000 in
set_option maxRecDepth 100000 in
theorem c_X1_carryOut (l : Launch) (γ : Gm) (w : Wd) (g : Nat → Int32) (k : Nat) (hk : k < 8) (cn : Nat) (hc : g 218 = nI cn) (h6 : cn ≤ 6) (a : Nat) (o : Nat → Int32) (ha : γ.1 + 92 ≤ a) (hy : w.2.2.1 a = some (.inr o)) (ho : ODo cn o) (hl : LG g) : Cr l γ yX1_carryOut cX1_carryOut 3 none 2 45 0 0 [.ref a, .ref (γ.1 + so k + 4), .int (g 230)] (rdw γ (wset w k g)) (Det none (rdw γ (wset w k (o_act g o)))) := by
  refine Cr_of [some (.ref a), some (.ref (γ.1 + so k + 4)), some (.int (g 230))] (by decide +kernel) (Nat.le_of_ble_eq_true rfl) rfl ?_
  intro p e s m args below meth c X
  refine v_q0 (fun Q0 hQ0 => ?_)
  refine v_aload_n X rfl dX1_carryOut_0 ?_
  refine v_getf X (v := (.int (o 1))) fd_X1_15 (rd_Ord γ _ ha hy) rfl dX1_carryOut_1 ?_
  refine v_iconst' X kc_2 dX1_carryOut_4 ?_
  refine v_icmp_ne (tgt := 19) X dX1_carryOut_5 (by decide) (fun q1 => ?_) (fun q1 => ?_)
  · obtain ⟨a1, b1, ha1, hb1, e2, e3, e4⟩ := ho q1
    refine v_aload_n X rfl dX1_carryOut_19 ?_
    refine v_getf X (v := (.int (o 1))) fd_X1_15 (rd_Ord γ _ ha hy) rfl dX1_carryOut_20 ?_
    refine v_if_ne (tgt := 45) X dX1_carryOut_23 (by decide) (fun q2 => ?_) (fun q2 => ?_)
    · refine v_aload_n X rfl dX1_carryOut_45 ?_
      refine v_aload_n X rfl dX1_carryOut_46 ?_
      refine v_getf X (v := (.int (o 2))) fd_X1_18 (rd_Ord γ _ ha hy) rfl dX1_carryOut_47 ?_
      rw [e2]
      refine v_aload_n X rfl dX1_carryOut_50 ?_
      refine v_getf X (v := (.int (o 3))) fd_X1_21 (rd_Ord γ _ ha hy) rfl dX1_carryOut_51 ?_
      rw [e3]
      refine v_iload_n X rfl dX1_carryOut_54 ?_
      refine v_callV (ci := 6) X mv_X1_47 (c_X5_closeDoor l γ w g k hk cn hc h6 a1 b1 ha1 hb1 (hl a1 b1 (by omega) hb1)) rfl rfl (rd_Train γ _ _ hk) rfl ⟨Nat.le_of_ble_eq_true rfl, Nat.le_of_ble_eq_true rfl, Nat.le_of_ble_eq_true rfl, Nat.le_of_ble_eq_true rfl⟩ (Nat.le_of_ble_eq_true rfl) rfl dX1_carryOut_55 rfl (det_v ?_)
      subst hQ0
      exact v_vret X rfl (Nat.le_of_ble_eq_true rfl) (Nat.le_of_ble_eq_true rfl) dX1_carryOut_58 ⟨rfl, by unfold o_act; first | rw [if_pos q1] | rw [if_neg q1, e2, e3, nI_clamp (by omega), nI_clamp (by omega), if_pos q2] | rw [if_neg q1, e2, e3, nI_clamp (by omega), nI_clamp (by omega), if_neg q2]⟩
    · refine v_aload_n X rfl dX1_carryOut_26 ?_
      refine v_aload_n X rfl dX1_carryOut_27 ?_
      refine v_getf X (v := (.int (o 2))) fd_X1_18 (rd_Ord γ _ ha hy) rfl dX1_carryOut_28 ?_
      rw [e2]
      refine v_aload_n X rfl dX1_carryOut_31 ?_
      refine v_getf X (v := (.int (o 3))) fd_X1_21 (rd_Ord γ _ ha hy) rfl dX1_carryOut_32 ?_
      rw [e3]
      refine v_aload_n X rfl dX1_carryOut_35 ?_
      refine v_getf X (v := (.int (o 4))) fd_X1_24 (rd_Ord γ _ ha hy) rfl dX1_carryOut_36 ?_
      refine v_callV (ci := 6) X mv_X1_43 (c_X5_openDoor l γ w g k hk cn hc h6 a1 b1 ha1 hb1 (o 4) (e4 (q2.trans nI_0.symm))) rfl rfl (rd_Train γ _ _ hk) rfl ⟨Nat.le_of_ble_eq_true rfl, Nat.le_of_ble_eq_true rfl, Nat.le_of_ble_eq_true rfl, Nat.le_of_ble_eq_true rfl⟩ (Nat.le_of_ble_eq_true rfl) rfl dX1_carryOut_39 rfl (det_v ?_)
      refine v_goto (tgt := 58) X dX1_carryOut_42 (by decide) ?_
      subst hQ0
      exact v_vret X rfl (Nat.le_of_ble_eq_true rfl) (Nat.le_of_ble_eq_true rfl) dX1_carryOut_58 ⟨rfl, by unfold o_act; first | rw [if_pos q1] | rw [if_neg q1, e2, e3, nI_clamp (by omega), nI_clamp (by omega), if_pos q2] | rw [if_neg q1, e2, e3, nI_clamp (by omega), nI_clamp (by omega), if_neg q2]⟩
  · refine v_aload_n X rfl dX1_carryOut_8 ?_
    refine v_aload_n X rfl dX1_carryOut_9 ?_
    refine v_getf X (v := (.int (o 4))) fd_X1_24 (rd_Ord γ _ ha hy) rfl dX1_carryOut_10 ?_
    refine v_putf X fp_X1_40 (rd_Train γ _ _ hk) rfl rfl (Nat.le_of_ble_eq_true rfl) dX1_carryOut_13 ?_
    refine v_eqh (up_wish γ _ _ hk _) ?_
    refine v_goto (tgt := 58) X dX1_carryOut_16 (by decide) ?_
    subst hQ0
    exact v_vret X rfl (Nat.le_of_ble_eq_true rfl) (Nat.le_of_ble_eq_true rfl) dX1_carryOut_58 ⟨rfl, by unfold o_act; first | rw [if_pos q1] | rw [if_neg q1, e2, e3, nI_clamp (by omega), nI_clamp (by omega), if_pos q2] | rw [if_neg q1, e2, e3, nI_clamp (by omega), nI_clamp (by omega), if_neg q2]⟩
set_option maxHeartbeats 4000000 in
set_option maxRecDepth 100000 in
theorem c_X1_part (l : Launch) (γ : Gm) (W : Wd) (a : Nat) (o : Nat → Int32) (ha : γ.1 + 92 ≤ a) (hy : W.2.2.1 a = some (.inr o)) (x : Int32) : Cr l γ yX1_part cX1_part 2 (some .int) 0 0 0 0 [.ref a, .int x] (rdw γ W) (Det (some (.int (if ¬ x < nI 0 ∧ ¬ nI 4 < x then o x.toNatClampNeg else (-1001)))) (rdw γ W)) := by
  refine Cr_of [some (.ref a), some (.int x)] (by decide +kernel) (Nat.le_of_ble_eq_true rfl) rfl ?_
  intro p e s m args below meth c X
  refine v_q0 (fun Q0 hQ0 => ?_)
  refine v_iload_n X rfl dX1_part_0 ?_
  by_cases hsw : ¬ x < nI 0 ∧ ¬ nI 4 < x
  · obtain ⟨jj, hjj, rfl⟩ := in_nat (by decide) hsw
    rcases (by omega : jj = 0 ∨ jj = 1 ∨ jj = 2 ∨ jj = 3 ∨ jj = 4) with rfl | rfl | rfl | rfl | rfl
    · refine v_tableIn (tgt := 36) (off := 35) X dX1_part_1 (by decide) (by decide) (by decide) (by decide) ?_
      refine v_aload_n X rfl dX1_part_36 ?_
      refine v_getf X (v := (.int (o 0))) fd_X1_9 (rd_Ord γ _ ha hy) rfl dX1_part_37 ?_
      subst hQ0
      exact v_iret X rfl (Nat.le_of_ble_eq_true rfl) (Nat.le_of_ble_eq_true rfl) dX1_part_40 ⟨so_some (by first | rw [if_neg hsw] | (rw [if_pos (nI_in0 (by decide) (by decide)), nI_clamp (by decide)])), rfl⟩
    · refine v_tableIn (tgt := 41) (off := 40) X dX1_part_1 (by decide) (by decide) (by decide) (by decide) ?_
      refine v_aload_n X rfl dX1_part_41 ?_
      refine v_getf X (v := (.int (o 1))) fd_X1_15 (rd_Ord γ _ ha hy) rfl dX1_part_42 ?_
      subst hQ0
      exact v_iret X rfl (Nat.le_of_ble_eq_true rfl) (Nat.le_of_ble_eq_true rfl) dX1_part_45 ⟨so_some (by first | rw [if_neg hsw] | (rw [if_pos (nI_in0 (by decide) (by decide)), nI_clamp (by decide)])), rfl⟩
    · refine v_tableIn (tgt := 46) (off := 45) X dX1_part_1 (by decide) (by decide) (by decide) (by decide) ?_
      refine v_aload_n X rfl dX1_part_46 ?_
      refine v_getf X (v := (.int (o 2))) fd_X1_18 (rd_Ord γ _ ha hy) rfl dX1_part_47 ?_
      subst hQ0
      exact v_iret X rfl (Nat.le_of_ble_eq_true rfl) (Nat.le_of_ble_eq_true rfl) dX1_part_50 ⟨so_some (by first | rw [if_neg hsw] | (rw [if_pos (nI_in0 (by decide) (by decide)), nI_clamp (by decide)])), rfl⟩
    · refine v_tableIn (tgt := 51) (off := 50) X dX1_part_1 (by decide) (by decide) (by decide) (by decide) ?_
      refine v_aload_n X rfl dX1_part_51 ?_
      refine v_getf X (v := (.int (o 3))) fd_X1_21 (rd_Ord γ _ ha hy) rfl dX1_part_52 ?_
      subst hQ0
      exact v_iret X rfl (Nat.le_of_ble_eq_true rfl) (Nat.le_of_ble_eq_true rfl) dX1_part_55 ⟨so_some (by first | rw [if_neg hsw] | (rw [if_pos (nI_in0 (by decide) (by decide)), nI_clamp (by decide)])), rfl⟩
    · refine v_tableIn (tgt := 56) (off := 55) X dX1_part_1 (by decide) (by decide) (by decide) (by decide) ?_
      refine v_aload_n X rfl dX1_part_56 ?_
      refine v_getf X (v := (.int (o 4))) fd_X1_24 (rd_Ord γ _ ha hy) rfl dX1_part_57 ?_
      subst hQ0
      exact v_iret X rfl (Nat.le_of_ble_eq_true rfl) (Nat.le_of_ble_eq_true rfl) dX1_part_60 ⟨so_some (by first | rw [if_neg hsw] | (rw [if_pos (nI_in0 (by decide) (by decide)), nI_clamp (by decide)])), rfl⟩
  · refine v_tableOut (tgt := 61) X dX1_part_1 (sw_out (by decide) hsw) (by decide) ?_
    refine v_sipush' X ks_m1001 dX1_part_61 ?_
    subst hQ0
    exact v_iret X rfl (Nat.le_of_ble_eq_true rfl) (Nat.le_of_ble_eq_true rfl) dX1_part_64 ⟨so_some (by first | rw [if_neg hsw] | (rw [if_pos (nI_in0 (by decide) (by decide)), nI_clamp (by decide)])), rfl⟩
set_option maxHeartbeats 4000000 in
set_option maxRecDepth 100000 in
theorem c_X1_init (l : Launch) (γ : Gm) (h : HP) (a : Nat) (y0 y1 y2 y3 y4 x0 x1 x2 x3 x4 : Int32) (ha : h.1 a = some (.inr (2, [.int y0, .int y1, .int y2, .int y3, .int y4]))) : Cr l γ yX1_init cX1_init 6 none 1 24 0 0 [.ref a, .int x0, .int x1, .int x2, .int x3, .int x4] (h) (Det none (hset h a (.inr (2, [.int x0, .int x1, .int x2, .int x3, .int x4])))) := by
  refine Cr_of [some (.ref a), some (.int x0), some (.int x1), some (.int x2), some (.int x3), some (.int x4)] (by decide +kernel) (Nat.le_of_ble_eq_true rfl) rfl ?_
  intro p e s m args below meth c X
  refine v_q0 (fun Q0 hQ0 => ?_)
  refine v_aload_n X rfl dX1_init_0 ?_
  refine v_objInit X oi_X1_3 (Nat.le_of_ble_eq_true rfl) (Nat.le_of_ble_eq_true rfl) rfl dX1_init_1 ?_
  refine v_aload_n X rfl dX1_init_4 ?_
  refine v_iload_n X rfl dX1_init_5 ?_
  refine v_putF X fp_X1_9 rfl ha rfl rfl (Nat.le_of_ble_eq_true rfl) dX1_init_6 ?_
  refine v_aload_n X rfl dX1_init_9 ?_
  refine v_iload_n X rfl dX1_init_10 ?_
  refine v_putF X fp_X1_15 rfl (hset_at _ _ _) rfl rfl (Nat.le_of_ble_eq_true rfl) dX1_init_11 ?_
  refine v_eqh (hset_hset _ _ _ _) ?_
  refine v_aload_n X rfl dX1_init_14 ?_
  refine v_iload_n X rfl dX1_init_15 ?_
  refine v_putF X fp_X1_18 rfl (hset_at _ _ _) rfl rfl (Nat.le_of_ble_eq_true rfl) dX1_init_16 ?_
  refine v_eqh (hset_hset _ _ _ _) ?_
  refine v_aload_n X rfl dX1_init_19 ?_
  refine v_iload X rfl dX1_init_20 ?_
  refine v_putF X fp_X1_21 rfl (hset_at _ _ _) rfl rfl (Nat.le_of_ble_eq_true rfl) dX1_init_22 ?_
  refine v_eqh (hset_hset _ _ _ _) ?_
  refine v_aload_n X rfl dX1_init_25 ?_
  refine v_iload X rfl dX1_init_26 ?_
  refine v_putF X fp_X1_24 rfl (hset_at _ _ _) rfl rfl (Nat.le_of_ble_eq_true rfl) dX1_init_28 ?_
  refine v_eqh (hset_hset _ _ _ _) ?_
  subst hQ0
  exact v_vret X rfl (Nat.le_of_ble_eq_true rfl) (Nat.le_of_ble_eq_true rfl) dX1_init_31 ⟨rfl, rfl⟩
/-! the walk through the orders of a state -/
def CO (γ : Gm) (w : Wd) (k cn q kp i : Nat) (v : LVt) (row : Nat → Option Nat) (M : Nat → Int32) : Prop := LB γ (wl w k v) k q row ∧ LO γ w row q ∧ LR γ w 168 kp row M ∧ (∀ t, i + t < q → ∃ a, row (i + t) = some a ∧ OrdAt γ w a (fun z => M (168 + 5 * (kp + t) + z))) ∧ OQ M (kp + (q - i)) ∧ TP M cn ∧ M 218 = nI cn
theorem CO_start {γ : Gm} {w : Wd} {k cn q : Nat} {row : Nat → Option Nat} {M : Nat → Int32} (hB : LB γ w k q row) (hR : LR γ w 168 q row M) (hq : OQ M q) (ht : TP M cn) (hc : M 218 = nI cn) : CO γ w k cn q 0 0 (w.2.1 k) row M := by
  refine ⟨by rw [wl_self]; exact hB, hR.lo, fun t z => absurd z (by omega), fun t z => ?_, by rw [Nat.zero_add]; exact hq, ht, hc⟩
  rw [Nat.zero_add] at z ⊢
  exact hR t z
theorem CO_due {γ : Gm} {w : Wd} {k cn q kp i : Nat} {v : LVt} {row : Nat → Option Nat} {M : Nat → Int32} (h : CO γ w k cn q kp i v row M) (h1 : 1 ≤ cn) (h6 : cn ≤ 6) (hi : i < q) (hk : kp ≤ i) (hd : ¬ q_due M cn kp = 0) : CO γ w k cn q kp (i + 1) v row (q_drop (q_act M kp) (kp + (q - (i + 1))) kp) := by
  obtain ⟨a1, a2, a3, a4, a5, a6, a7⟩ := h
  have h10 := a5.2.1
  have ho := a5.2.2 kp (by omega)
  have ea : ∀ j, 168 ≤ j → j < 218 → q_act M kp j = M j := fun j x z => q_act_off M ho.ov (Or.inr x) (by omega)
  refine ⟨a1, a2, fun t ht => ?_, fun t ht => ?_, OQ_due (r := q - (i + 1)) (by rw [show kp + (q - (i + 1) + 1) = kp + (q - i) by omega]; exact a5), ?_, ?_⟩
  · obtain ⟨a, b, c⟩ := a3 t ht
    exact ⟨a, b, c.congr fun z hz => by rw [q_drop_lo _ (by omega) (by omega) (by omega), ea _ (by omega) (by omega)]⟩
  · obtain ⟨a, b, c⟩ := a4 (t + 1) (by omega)
    refine ⟨a, by rw [show i + 1 + t = i + (t + 1) by omega]; exact b, c.congr fun z hz => ?_⟩
    rw [q_drop_hi _ (by omega) (by omega) (by omega), ea _ (by omega) (by omega), show 168 + 5 * (kp + t) + z + 5 = 168 + 5 * (kp + (t + 1)) + z by omega]
  · exact (TP_act a6 h1 h6 ho hd).congr fun j x z => q_drop_off _ (by omega) (by omega) (by omega)
  · rw [q_drop_off _ (by omega) (by omega) (by omega), q_act_off M ho.ov (Or.inr (by omega)) (by omega)]
    exact a7
theorem CO_keep {γ : Gm} {w : Wd} {k cn q kp i a : Nat} {v v' : LVt} {row : Nat → Option Nat} {M : Nat → Int32} (h : CO γ w k cn q kp i v row M) (hi : i < q) (hk : kp ≤ i) (ha : row (i + 0) = some a) (hB : LB γ (wl w k v') k q (va_up row kp (some a))) : CO γ w k cn q (kp + 1) (i + 1) v' (va_up row kp (some a)) M := by
  obtain ⟨a1, a2, a3, a4, a5, a6, a7⟩ := h
  have hx := a4 0 (by omega)
  obtain ⟨b, hb, hc⟩ := hx
  have e : b = a := by rw [ha] at hb; cases hb; rfl
  subst e
  refine ⟨hB, fun t ht => ?_, fun t ht => ?_, fun t ht => ?_, by rw [show kp + 1 + (q - (i + 1)) = kp + (q - i) by omega]; exact a5, a6, a7⟩
  · by_cases e : t = kp
    · subst e
      obtain ⟨c1, c2, u, c3, _⟩ := hc
      exact ⟨b, u, va_up_self _ _ _, c1, c2, c3⟩
    · rw [va_up_ne _ _ e]; exact a2 t ht
  · by_cases e : t = kp
    · subst e
      exact ⟨b, va_up_self _ _ _, hc⟩
    · rw [va_up_ne _ _ e]; exact a3 t (by omega)
  · rw [va_up_ne _ _ (by omega), show i + 1 + t = i + (t + 1) by omega]
    obtain ⟨c, d, f⟩ := a4 (t + 1) (by omega)
    exact ⟨c, d, f.congr fun z hz => by rw [show kp + 1 + t = kp + (t + 1) by omega]⟩
theorem ord_t {cn i r : Nat} {N : Nat → Int32} (hq : OQ N (i + (r + 1))) (hd : ¬ q_due N cn i = 0) : q_ord cn (r + 1) i N = q_ord cn r i (q_drop (q_act N i) (i + r) i) := by
  have h10 := hq.2.1
  show (if q_due N cn i = 0 then q_ord cn r (i + 1) N else q_ord cn r i (q_drop (q_act N i) ((N 223).toNatClampNeg - 1) i)) = _
  rw [if_neg hd, hq.1, nI_clamp (by omega), show i + (r + 1) - 1 = i + r by omega]
theorem ord_f {cn i r : Nat} {N : Nat → Int32} (hd : q_due N cn i = 0) : q_ord cn (r + 1) i N = q_ord cn r (i + 1) N := if_pos hd
theorem i_dec1 (a : Int32) : a + Int32.ofInt (-1) = a - nI 1 := by rw [show Int32.ofInt (-1) = (-1) from by decide]; exact i_m1b a
theorem LO_rem {γ : Gm} {w : Wd} {row : Nat → Option Nat} {q : Nat} (h : LO γ w row q) : LO γ w (c_rem row q (q - 1)) (q - 1) := by
  rw [← c_rem0 row (Nat.le_refl _)]
  intro t ht
  rw [va_up_ne _ _ (by omega)]
  exact h t (by omega)
theorem LR_rem {γ : Gm} {w : Wd} {row : Nat → Option Nat} {b q kp : Nat} {M : Nat → Int32} (h : LR γ w b kp row M) (hk : kp + 1 ≤ q) : LR γ w b kp (c_rem row q (q - 1)) M := by
  rw [← c_rem0 row (Nat.le_refl _)]
  intro t ht
  rw [va_up_ne _ _ (by omega)]
  exact h t ht
theorem sub1_lt {s kp : Nat} (hs : s < 100) (hk : kp < 100) : nI s - nI 1 < nI kp ↔ s ≤ kp := by
  have e : (nI s - nI 1).toInt = _ := i_sub (by rw [i_nI (by omega), i_nI (by omega)]; omega) (by rw [i_nI (by omega), i_nI (by omega)]; omega)
  rw [i_lt, e, i_nI (by omega), i_nI (by omega), i_nI (by omega)]; omega
set_option maxHeartbeats 4000000 in
set_option maxRecDepth 100000 in
theorem c_X2_carryOutOrders (l : Launch) (γ : Gm) (w : Wd) (g : Nat → Int32) (k : Nat) (hk : k < 8) (cn q : Nat) (hc : g 218 = nI cn) (h1 : 1 ≤ cn) (h6 : cn ≤ 6) (hq : OQ g q) (ht : TP g cn) (hL : LF γ w k 168 q g) : Cr l γ yX2_carryOutOrders cX2_carryOutOrders 4 none 3 86 0 0 [.ref (γ.1 + so k)] (rdw γ (wset w k g)) (fun v h' => v = none ∧ ∃ (v2 : LVt) (q2 : Nat), h' = rdw γ (wset (wl w k v2) k (q_ord cn q 0 g)) ∧ q2 ≤ q ∧ OQ (q_ord cn q 0 g) q2 ∧ LF γ (wl w k v2) k 168 q2 (q_ord cn q 0 g)) := by
  refine Cr_of [some (.ref (γ.1 + so k)), none, none, none] (by decide +kernel) (Nat.le_of_ble_eq_true rfl) rfl ?_
  intro p e s m args below meth c X
  refine v_q0 (fun Q0 hQ0 => ?_)
  obtain ⟨row0, hB0, hR0⟩ := hL
  have h10 := hq.2.1
  refine v_iconst' X kc_0 dX2_carryOutOrders_0 ?_
  refine v_istore_n X (Nat.le_of_ble_eq_true rfl) rfl dX2_carryOutOrders_1 ?_
  refine v_iconst' X kc_0 dX2_carryOutOrders_2 ?_
  refine v_istore_n X (Nat.le_of_ble_eq_true rfl) rfl dX2_carryOutOrders_3 ?_
  have lp4 : ∀ (n : Nat) (kp i : Nat) (v : LVt) (row : Nat → Option Nat) (M : Nat → Int32), kp ≤ i ∧ i ≤ q ∧ q + 1 ≤ i + n → CO γ w k cn q kp i v row M → q_ord cn (q - i) kp M = q_ord cn q 0 g → V p l e { frames := 3, cells := 0, slots := 0, locals := 86 } s m args below meth c γ Q0 (rdw γ (wset (wl w k v) k M)) 0 0 4 [some (.ref (γ.1 + so k)), some (.int (nI kp)), some (.int (nI i)), none] [] := by
    intro n
    induction n with
    | zero =>
      intro kp i v row M hbd
      exact absurd hbd (by omega)
    | succ n ih =>
      intro kp i v row M hbd hCO hF
      refine v_iload_n X rfl dX2_carryOutOrders_4 ?_
      refine v_aload_n X rfl dX2_carryOutOrders_5 ?_
      refine v_getf X fd_X2_32 (rd_State γ _ _ hk) rfl dX2_carryOutOrders_6 ?_
      refine v_callV (ci := 0) X mv_X2_111 (k_size l γ (wset (wl w k v) k M) k q row (by omega) _ (lA_so γ hk) hCO.1) rfl rfl (rd_SList γ _ hk) rfl ⟨Nat.le_of_ble_eq_true rfl, Nat.le_of_ble_eq_true rfl, Nat.le_of_ble_eq_true rfl, Nat.le_of_ble_eq_true rfl⟩ (Nat.le_of_ble_eq_true rfl) rfl dX2_carryOutOrders_9 rfl (det_i ?_)
      refine v_icmp_ge_n (tgt := 74) X dX2_carryOutOrders_12 (by decide) (by omega) (by omega) (fun c_1 => ?_) (fun c_1 => ?_)
      · obtain rfl : i = q := by omega
        have hM : M = q_ord cn i 0 g := by rw [Nat.sub_self] at hF; exact hF
        refine v_aload_n X rfl dX2_carryOutOrders_74 ?_
        refine v_getf X fd_X2_32 (rd_State γ _ _ hk) rfl dX2_carryOutOrders_75 ?_
        refine v_callV (ci := 0) X mv_X2_111 (k_size l γ (wset (wl w k v) k M) k i row (by omega) _ (lA_so γ hk) hCO.1) rfl rfl (rd_SList γ _ hk) rfl ⟨Nat.le_of_ble_eq_true rfl, Nat.le_of_ble_eq_true rfl, Nat.le_of_ble_eq_true rfl, Nat.le_of_ble_eq_true rfl⟩ (Nat.le_of_ble_eq_true rfl) rfl dX2_carryOutOrders_78 rfl (det_i ?_)
        refine v_iconst' X kc_1 dX2_carryOutOrders_81 ?_
        refine v_isub X dX2_carryOutOrders_82 ?_
        refine v_istore_n X (Nat.le_of_ble_eq_true rfl) rfl dX2_carryOutOrders_83 ?_
        have lp84 : ∀ (n2 : Nat) (s2 : Nat) (v : LVt) (row : Nat → Option Nat), kp ≤ s2 ∧ s2 ≤ i ∧ s2 + 1 ≤ kp + n2 → LB γ (wl w k v) k s2 row → LO γ w row s2 → LR γ w 168 kp row M → V p l e { frames := 3, cells := 0, slots := 0, locals := 86 } s m args below meth c γ Q0 (rdw γ (wset (wl w k v) k M)) 0 0 84 [some (.ref (γ.1 + so k)), some (.int (nI kp)), some (.int (nI s2 - nI 1)), none] [] := by
          intro n2
          induction n2 with
          | zero =>
            intro s2 v row hbd2
            exact absurd hbd2 (by omega)
          | succ n2 ih2 =>
            intro s2 v row hbd2 hB3 hO3 hR3
            refine v_iload_n X rfl dX2_carryOutOrders_84 ?_
            refine v_iload_n X rfl dX2_carryOutOrders_85 ?_
            refine v_icmp_lt (tgt := 104) X dX2_carryOutOrders_86 (by decide) (fun q6 => ?_) (fun q6 => ?_)
            · have hs2 := (sub1_lt (s := s2) (kp := kp) (by omega) (by omega)).mp q6
              obtain rfl : s2 = kp := by omega
              subst hQ0
              exact v_vret X rfl (Nat.le_of_ble_eq_true rfl) (Nat.le_of_ble_eq_true rfl) dX2_carryOutOrders_104 ⟨rfl, v, s2, by rw [← hM], by omega, by rw [← hM]; have h7 := hCO.2.2.2.2.1; rw [Nat.sub_self, Nat.add_zero] at h7; exact h7, row, hB3, by rw [← hM]; exact hR3⟩
            · have hs2 : ¬ s2 ≤ kp := fun z => q6 ((sub1_lt (by omega) (by omega)).mpr z)
              obtain ⟨a3, o3, ha3, -⟩ := hO3 (s2 - 1) (by omega)
              rw [pk_sub (by omega : 1 ≤ s2)]
              refine v_aload_n X rfl dX2_carryOutOrders_89 ?_
              refine v_getf X fd_X2_32 (rd_State γ _ _ hk) rfl dX2_carryOutOrders_90 ?_
              refine v_iload_n X rfl dX2_carryOutOrders_93 ?_
              refine v_callV (ci := 0) X mv_X2_133 (k_rem l γ (wset (wl w k v) k M) k s2 row (by omega) _ (lA_so γ hk) hB3 (s2 - 1) a3 (by omega) ha3 hO3) rfl rfl (rd_SList γ _ hk) rfl ⟨Nat.le_of_ble_eq_true rfl, Nat.le_of_ble_eq_true rfl, Nat.le_of_ble_eq_true rfl, Nat.le_of_ble_eq_true rfl⟩ (Nat.le_of_ble_eq_true rfl) rfl dX2_carryOutOrders_94 rfl (nd_r (fun h9 hp9 => ?_))
              obtain ⟨v4, rfl, hB4⟩ := hp9
              rw [wl_ws] at hB4 ⊢
              refine v_pop X rfl dX2_carryOutOrders_97 ?_
              refine v_iinc X rfl rfl dX2_carryOutOrders_98 ?_
              rw [i_dec1]
              refine v_goto (tgt := 84) X dX2_carryOutOrders_101 (by decide) ?_
              exact v_Ln (ih2 (s2 - 1) _ _ ⟨by omega, by omega, by omega⟩ hB4 (LO_rem hO3) (LR_rem hR3 (by omega))) ⟨Or.inr rfl, Or.inr rfl, Or.inr rfl, Or.inl rfl, trivial⟩
        exact v_Ln (lp84 (i - kp + 1) i v row ⟨by omega, by omega, by omega⟩ hCO.1 hCO.2.1 hCO.2.2.1) ⟨Or.inr rfl, Or.inr rfl, Or.inr rfl, Or.inl rfl, trivial⟩
      · obtain ⟨a, ha, ha1, ha2, o, hy, ho⟩ := hCO.2.2.2.1 0 (by omega)
        have ho : ∀ z, z < 5 → o z = M (168 + 5 * kp + z) := ho
        have hO : OVo o := (hCO.2.2.2.2.1.2.2 kp (by omega)).congr ho
        refine v_aload_n X rfl dX2_carryOutOrders_15 ?_
        refine v_getf X fd_X2_32 (rd_State γ _ _ hk) rfl dX2_carryOutOrders_16 ?_
        refine v_iload_n X rfl dX2_carryOutOrders_19 ?_
        refine v_callV (ci := 0) X mv_X2_115 (k_get l γ (wset (wl w k v) k M) k q row (by omega) _ (lA_so γ hk) hCO.1 i a (by omega) ha) rfl rfl (rd_SList γ _ hk) rfl ⟨Nat.le_of_ble_eq_true rfl, Nat.le_of_ble_eq_true rfl, Nat.le_of_ble_eq_true rfl, Nat.le_of_ble_eq_true rfl⟩ (Nat.le_of_ble_eq_true rfl) rfl dX2_carryOutOrders_20 rfl (det_r ?_)
        refine v_castS (ci := 2) (r := (RX1, TX1, 5)) X cl_X2_119 rfl (rd_Ord γ _ ha1 hy) dX2_carryOutOrders_23 ?_
        refine v_astore_n X (Nat.le_of_ble_eq_true rfl) rfl dX2_carryOutOrders_26 ?_
        refine v_aload_n X rfl dX2_carryOutOrders_27 ?_
        refine v_aload_n X rfl dX2_carryOutOrders_28 ?_
        refine v_getf X fd_X2_25 (rd_State γ _ _ hk) rfl dX2_carryOutOrders_29 ?_
        refine v_callV (ci := 2) X mv_X2_121 (c_X1_isDue l γ (wl w k v) M k hk cn (by exact hCO.2.2.2.2.2.2) h6 h1 a o ha1 hy hO) rfl rfl (rd_Ord γ _ ha1 hy) rfl ⟨Nat.le_of_ble_eq_true rfl, Nat.le_of_ble_eq_true rfl, Nat.le_of_ble_eq_true rfl, Nat.le_of_ble_eq_true rfl⟩ (Nat.le_of_ble_eq_true rfl) rfl dX2_carryOutOrders_32 rfl (det_i ?_)
        rw [o_due_q ho]
        refine v_if_eq (tgt := 55) X dX2_carryOutOrders_35 (by decide) (fun q5 => ?_) (fun q5 => ?_)
        · obtain ⟨a0, o0, ha0, -⟩ := hCO.2.1 kp (by omega)
          have hF2 := hF
          rw [show q - i = (q - (i + 1)) + 1 by omega, ord_f q5] at hF2
          refine v_aload_n X rfl dX2_carryOutOrders_55 ?_
          refine v_getf X fd_X2_32 (rd_State γ _ _ hk) rfl dX2_carryOutOrders_56 ?_
          refine v_iload_n X rfl dX2_carryOutOrders_59 ?_
          refine v_aload_n X rfl dX2_carryOutOrders_60 ?_
          refine v_callV (ci := 0) X mv_X2_129 (k_set l γ (wset (wl w k v) k M) k q row (by omega) _ (lA_so γ hk) hCO.1 kp a0 a (by omega) ha0 o ⟨ha1, ha2, o, hy, fun _ _ => rfl⟩) rfl rfl (rd_SList γ _ hk) rfl ⟨Nat.le_of_ble_eq_true rfl, Nat.le_of_ble_eq_true rfl, Nat.le_of_ble_eq_true rfl, Nat.le_of_ble_eq_true rfl⟩ (Nat.le_of_ble_eq_true rfl) rfl dX2_carryOutOrders_61 rfl (nd_r (fun h9 hp9 => ?_))
          obtain ⟨v2, rfl, hB2⟩ := hp9
          rw [wl_ws] at hB2 ⊢
          have hC2 := CO_keep hCO (by omega) (by omega) ha hB2
          refine v_pop X rfl dX2_carryOutOrders_64 ?_
          refine v_iinc' X rfl rfl (nI_inc _) dX2_carryOutOrders_65 ?_
          refine v_iinc' X rfl rfl (nI_inc _) dX2_carryOutOrders_68 ?_
          refine v_goto (tgt := 4) X dX2_carryOutOrders_71 (by decide) ?_
          exact v_Ln (ih _ (i + 1) _ _ _ ⟨by omega, by omega, by omega⟩ hC2 hF2) ⟨Or.inr rfl, Or.inr rfl, Or.inr rfl, Or.inl rfl, trivial⟩
        · refine v_aload_n X rfl dX2_carryOutOrders_38 ?_
          refine v_aload_n X rfl dX2_carryOutOrders_39 ?_
          refine v_getf X fd_X2_25 (rd_State γ _ _ hk) rfl dX2_carryOutOrders_40 ?_
          refine v_aload_n X rfl dX2_carryOutOrders_43 ?_
          refine v_getf X fd_X2_9 (rd_State γ _ _ hk) rfl dX2_carryOutOrders_44 ?_
          refine v_iconst' X kc_2 dX2_carryOutOrders_47 ?_
          refine v_iald' X (v := (M (228 + (2)))) (rd_Settings γ _ _ hk) (2) rfl (by omega) (by decide) (vw_at (by omega)) dX2_carryOutOrders_48 ?_
          refine v_callV (ci := 2) X mv_X2_125 (c_X1_carryOut l γ (wl w k v) M k hk cn (by exact hCO.2.2.2.2.2.2) h6 a o ha1 hy (ODo_of h1 h6 hO ho q5) hCO.2.2.2.2.2.1.1) rfl rfl (rd_Ord γ _ ha1 hy) rfl ⟨Nat.le_of_ble_eq_true rfl, Nat.le_of_ble_eq_true rfl, Nat.le_of_ble_eq_true rfl, Nat.le_of_ble_eq_true rfl⟩ (Nat.le_of_ble_eq_true rfl) rfl dX2_carryOutOrders_49 rfl (det_v ?_)
          rw [o_act_q ho]
          have h10b := hCO.2.2.2.2.1.2.1
          refine v_eqh (rdw_ext γ _ hk (g' := q_drop (q_act M kp) (kp + (q - (i + 1))) kp) (fun j x y z => (q_drop_off _ (by omega) (by omega) z).symm)) ?_
          have hC2 := CO_due hCO h1 h6 (by omega) (by omega) q5
          have hF2 := hF
          rw [show q - i = (q - (i + 1)) + 1 by omega, ord_t (by rw [show kp + (q - (i + 1) + 1) = kp + (q - i) by omega]; exact hCO.2.2.2.2.1) q5] at hF2
          refine v_goto (tgt := 68) X dX2_carryOutOrders_52 (by decide) ?_
          refine v_iinc' X rfl rfl (nI_inc _) dX2_carryOutOrders_68 ?_
          refine v_goto (tgt := 4) X dX2_carryOutOrders_71 (by decide) ?_
          exact v_Ln (ih _ (i + 1) _ _ _ ⟨by omega, by omega, by omega⟩ hC2 hF2) ⟨Or.inr rfl, Or.inr rfl, Or.inr rfl, Or.inl rfl, trivial⟩
  have hy := lp4 (q + 1) 0 0 (w.2.1 k) row0 g ⟨by omega, by omega, by omega⟩ (CO_start hB0 hR0 hq ht hc) rfl
  rw [wl_self] at hy
  exact v_Ln (hy) ⟨Or.inr rfl, Or.inr rfl, Or.inr rfl, Or.inl rfl, trivial⟩
