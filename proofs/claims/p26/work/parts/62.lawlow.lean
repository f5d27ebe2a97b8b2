/-! the law's small methods -/
section LKK
variable {p : Program} {l : Launch} {e : Env} {R : Room} {s : State} {m : MethodId} {args : Array Value} {below : List Frame} {meth : Method} {c : Code} {γ : Gm} {Q : State → Prop} {h : HP} {k j pc : Nat} {L : List (Option Value)} {st : List Value}
theorem lo_i {n : Nat} (kk : ∀ z, z < n → V p l e R s m args below meth c γ Q h k j pc L (.int (nI z) :: st)) : ∀ (v : Option Value) (h' : HP), (∃ z, z < n ∧ v = some (.int (nI z)) ∧ h' = h) → V p l e R s m args below meth c γ Q h' k j pc L (v.toList ++ st) := by
  rintro v h' ⟨z, hz, rfl, rfl⟩
  exact kk z hz
theorem ce_i (kk : ∀ z : Int32, V p l e R s m args below meth c γ Q h k j pc L (.int z :: st)) : ∀ (v : Option Value) (h' : HP), (∃ z : Int32, v = some (.int z) ∧ h' = h) → V p l e R s m args below meth c γ Q h' k j pc L (v.toList ++ st) := by
  rintro v h' ⟨z, rfl, rfl⟩
  exact kk z
end LKK
theorem em2 (A B : Prop) : (A ∧ B) ∨ (A ∧ ¬ B) ∨ (¬ A ∧ B) ∨ (¬ A ∧ ¬ B) := by
  by_cases a : A <;> by_cases b : B <;> simp [a, b]
theorem u_t {a b : Int32} (h : b ≤ a) : b = if b < a then b else a := by
  by_cases z : b < a
  · rw [if_pos z]
  · rw [if_neg z]
    rw [i_le] at h
    rw [i_lt] at z
    exact i_eq.mpr (by omega)
theorem u_f {a b : Int32} (h : ¬ b ≤ a) : a = if b < a then b else a := by
  rw [if_neg]
  intro z
  rw [i_le] at h
  rw [i_lt] at z
  omega
set_option maxHeartbeats 4000000 in
set_option maxRecDepth 100000 in
theorem c_L_low (l : Launch) (γ : Gm) (h : HP) (x : Int32) (n : Nat) (h0 : 0 < n) (hn : n < 2 ^ 31) : Cr l γ yL_low cL_low 2 (some .int) 0 0 0 0 [.int x, .int (nI n)] (h) (fun v h' => ∃ z, z < n ∧ v = some (.int (nI z)) ∧ h' = h) := by
  refine Cr_of [some (.int x), some (.int (nI n))] (by decide +kernel) (Nat.le_of_ble_eq_true rfl) rfl ?_
  intro p e s m args below meth c X
  refine v_q0 (fun Q0 hQ0 => ?_)
  refine v_iload_n X rfl dL_low_0 ?_
  refine v_ldcI X ki_L_8 dL_low_1 ?_
  change V p l e _ s m args below meth c γ Q0 _ _ _ _ _ (.int (nI 2147483647) :: _)
  refine v_iand X dL_low_3 ?_
  refine v_iload_n X rfl dL_low_4 ?_
  refine v_irem X (nI_ne0 h0 hn) dL_low_5 ?_
  obtain ⟨z, hz, ez⟩ := low_v x h0 hn
  rw [ez]
  subst hQ0
  exact v_iret X rfl (Nat.le_of_ble_eq_true rfl) (Nat.le_of_ble_eq_true rfl) dL_low_6 ⟨z, hz, rfl, rfl⟩
set_option maxHeartbeats 4000000 in
set_option maxRecDepth 100000 in
theorem c_L_cell (l : Launch) (γ : Gm) (h : HP) (k0 : Nat) (hk : k0 < 1000) : Cr l γ yL_cell cL_cell 2 (some .int) 0 0 0 0 [.ref (γ.2.2.2 5), .int (nI k0)] (h) (fun v h' => ∃ z : Int32, v = some (.int z) ∧ h' = h) := by
  refine Cr_of [some (.ref (γ.2.2.2 5)), some (.int (nI k0))] (by decide +kernel) (Nat.le_of_ble_eq_true rfl) rfl ?_
  intro p e s m args below meth c X
  refine v_q0 (fun Q0 hQ0 => ?_)
  obtain ⟨xs, hT⟩ := (cx_env X).2.2.1.2.2.2
  have hL := (cx_env X).2.2.2.1
  refine v_iload_n X rfl dL_cell_0 ?_
  refine v_aload_n X rfl dL_cell_1 ?_
  refine v_tlen X hT dL_cell_2 ?_
  refine v_icmp_ge_n (tgt := 12) X dL_cell_3 (by decide) (by omega) (by omega) (fun c_1 => ?_) (fun c_1 => ?_)
  · refine v_ldcI X ki_L_7 dL_cell_12 ?_
    refine v_iload_n X rfl dL_cell_14 ?_
    refine v_iconst' X kc_1 dL_cell_15 ?_
    refine v_iadd' X (nI_add _ _) dL_cell_16 ?_
    refine v_imul X dL_cell_17 ?_
    subst hQ0
    exact v_iret X rfl (Nat.le_of_ble_eq_true rfl) (Nat.le_of_ble_eq_true rfl) dL_cell_18 ⟨_, rfl, rfl⟩
  · refine v_aload_n X rfl dL_cell_6 ?_
    refine v_iload_n X rfl dL_cell_7 ?_
    refine v_tald X hT k0 rfl (by omega) (by omega) rfl dL_cell_8 ?_
    refine v_goto (tgt := 18) X dL_cell_9 (by decide) ?_
    subst hQ0
    exact v_iret X rfl (Nat.le_of_ble_eq_true rfl) (Nat.le_of_ble_eq_true rfl) dL_cell_18 ⟨_, rfl, rfl⟩
set_option maxHeartbeats 4000000 in
set_option maxRecDepth 100000 in
theorem c_L_height (l : Launch) (γ : Gm) (w : Wd) (M : Nat → Int32) (hB : HB M 1000) (a b : Nat) (ha : a < 40) (hb : b < 3) : Cr l γ yL_height cL_height 3 (some .int) 0 0 0 0 [.ref (γ.1 + 86), .int (nI a), .int (nI b)] (rdw γ (wset w 10 M)) (Det (some (.int (M (3 * a + b)))) (rdw γ (wset w 10 (M)))) := by
  refine Cr_of [some (.ref (γ.1 + 86)), some (.int (nI a)), some (.int (nI b))] (by decide +kernel) (Nat.le_of_ble_eq_true rfl) rfl ?_
  intro p e s m args below meth c X
  refine v_q0 (fun Q0 hQ0 => ?_)
  refine v_aload_n X rfl dL_height_0 ?_
  refine v_iload_n X rfl dL_height_1 ?_
  refine v_iald' X (rd_H1 γ _ _) a rfl (by omega) (by decide) rfl dL_height_2 ?_
  refine v_bipush' X kb_10 dL_height_3 ?_
  refine v_iload_n X rfl dL_height_5 ?_
  refine v_imul' X (pk_mul _ _) dL_height_6 ?_
  refine v_ishr X dL_height_7 ?_
  refine v_sipush' X ks_1023 dL_height_8 ?_
  refine v_iand X dL_height_11 ?_
  subst hQ0
  exact v_iret X rfl (Nat.le_of_ble_eq_true rfl) (Nat.le_of_ble_eq_true rfl) dL_height_12 ⟨so_some (h_get hB ha hb), rfl⟩
set_option maxHeartbeats 4000000 in
set_option maxRecDepth 100000 in
theorem c_L_comes (l : Launch) (γ : Gm) (w : Wd) (M : Nat → Int32) (a b : Nat) (ha : a < 40) (hb : b < 3) (u : Int32) : Cr l γ yL_comes cL_comes 4 none 0 0 0 0 [.ref (γ.1 + 86), .int (nI a), .int (nI b), .int u] (rdw γ (wset w 10 M)) (Det none (rdw γ (wset w 10 (upd M (3 * a + b) (M (3 * a + b) + u))))) := by
  refine Cr_of [some (.ref (γ.1 + 86)), some (.int (nI a)), some (.int (nI b)), some (.int u)] (by decide +kernel) (Nat.le_of_ble_eq_true rfl) rfl ?_
  intro p e s m args below meth c X
  refine v_q0 (fun Q0 hQ0 => ?_)
  refine v_aload_n X rfl dL_comes_0 ?_
  refine v_iload_n X rfl dL_comes_1 ?_
  refine v_dup2 X rfl rfl dL_comes_2 ?_
  refine v_iald' X (rd_H1 γ _ _) a rfl (by omega) (by decide) rfl dL_comes_3 ?_
  refine v_iload_n X rfl dL_comes_4 ?_
  refine v_bipush' X kb_10 dL_comes_5 ?_
  refine v_iload_n X rfl dL_comes_7 ?_
  refine v_imul' X (pk_mul _ _) dL_comes_8 ?_
  refine v_ishl X dL_comes_9 ?_
  refine v_iadd X dL_comes_10 ?_
  refine v_iast X (rd_H1 γ _ _) a rfl (by omega) (by decide) dL_comes_11 ?_
  refine v_eqh (up_H1 γ _ _ ha hb _) ?_
  subst hQ0
  exact v_vret X rfl (Nat.le_of_ble_eq_true rfl) (Nat.le_of_ble_eq_true rfl) dL_comes_12 ⟨rfl, rfl⟩
set_option maxHeartbeats 4000000 in
set_option maxRecDepth 100000 in
theorem c_L_moves (l : Launch) (γ : Gm) (w : Wd) (M : Nat → Int32) (a b : Nat) (ha : a < 6) (hb : b < 3) (x : Int32) : Cr l γ yL_moves cL_moves 6 none 0 0 0 0 [.ref (γ.1 + 87), .int (nI a), .int (nI b), .int x] (rdw γ (wset w 10 M)) (Det none (rdw γ (wset w 10 (q_moves M a b x)))) := by
  refine Cr_of [some (.ref (γ.1 + 87)), some (.int (nI a)), some (.int (nI b)), some (.int x), none, none] (by decide +kernel) (Nat.le_of_ble_eq_true rfl) rfl ?_
  intro p e s m args below meth c X
  refine v_q0 (fun Q0 hQ0 => ?_)
  rcases em2 (x ≤ 0) (M (120 + 8 * a + (2 + b)) ≤ 0) with ⟨q1, q2⟩ | ⟨q1, q2⟩ | ⟨q1, q2⟩ | ⟨q1, q2⟩
  · refine v_bipush' X kb_8 dL_moves_0 ?_
    refine v_iload_n X rfl dL_moves_2 ?_
    refine v_imul' X (pk_mul _ _) dL_moves_3 ?_
    refine v_istore X (Nat.le_of_ble_eq_true rfl) rfl dL_moves_4 ?_
    refine v_aload_n X rfl dL_moves_6 ?_
    refine v_iload X rfl dL_moves_7 ?_
    refine v_iconst' X kc_2 dL_moves_9 ?_
    refine v_iadd' X (nI_add _ _) dL_moves_10 ?_
    refine v_iload_n X rfl dL_moves_11 ?_
    refine v_iadd' X (nI_add _ _) dL_moves_12 ?_
    refine v_iald' X (v := (M (120 + 8 * a + (2 + b)))) (rd_W1 γ _ _) ((((8 * a) + 2) + b)) rfl (by omega) (by decide) (w_at (i := (((8 * a) + 2) + b)) (j := 120 + 8 * a + (2 + b)) (by omega) (fw_lo (by omega) (by omega))) dL_moves_13 ?_
    refine v_if_le_t (tgt := 21) X dL_moves_14 (by decide) q2 ?_
    refine v_iconst' X kc_0 dL_moves_21 ?_
    refine v_istore X (Nat.le_of_ble_eq_true rfl) rfl dL_moves_22 ?_
    refine v_aload_n X rfl dL_moves_24 ?_
    refine v_iload X rfl dL_moves_25 ?_
    refine v_iconst' X kc_2 dL_moves_27 ?_
    refine v_iadd' X (nI_add _ _) dL_moves_28 ?_
    refine v_iload_n X rfl dL_moves_29 ?_
    refine v_iadd' X (nI_add _ _) dL_moves_30 ?_
    refine v_iload_n X rfl dL_moves_31 ?_
    refine v_if_le_t (tgt := 39) X dL_moves_32 (by decide) q1 ?_
    refine v_aload_n X rfl dL_moves_39 ?_
    refine v_iload X rfl dL_moves_40 ?_
    refine v_iconst' X kc_2 dL_moves_42 ?_
    refine v_iadd' X (nI_add _ _) dL_moves_43 ?_
    refine v_iload_n X rfl dL_moves_44 ?_
    refine v_iadd' X (nI_add _ _) dL_moves_45 ?_
    refine v_iald' X (v := (M (120 + 8 * a + (2 + b)))) (rd_W1 γ _ _) ((((8 * a) + 2) + b)) rfl (by omega) (by decide) (w_at (i := (((8 * a) + 2) + b)) (j := 120 + 8 * a + (2 + b)) (by omega) (fw_lo (by omega) (by omega))) dL_moves_46 ?_
    refine v_iast X (rd_W1 γ _ _) ((((8 * a) + 2) + b)) rfl (by omega) (by decide) dL_moves_47 ?_
    refine v_eqh (up_W1 (i := (((8 * a) + 2) + b)) (j := 120 + 8 * a + (2 + b)) γ _ _ (by omega) (fw_lo (by omega) (by omega)) _) ?_
    refine v_aload_n X rfl dL_moves_48 ?_
    refine v_iload X rfl dL_moves_49 ?_
    refine v_iconst' X kc_5 dL_moves_51 ?_
    refine v_iadd' X (nI_add _ _) dL_moves_52 ?_
    refine v_iload_n X rfl dL_moves_53 ?_
    refine v_iadd' X (nI_add _ _) dL_moves_54 ?_
    refine v_iload_n X rfl dL_moves_55 ?_
    refine v_if_le_t (tgt := 65) X dL_moves_56 (by decide) q1 ?_
    refine v_iload X rfl dL_moves_65 ?_
    refine v_if_eq_t (tgt := 77) X dL_moves_67 (by decide) (by decide) ?_
    refine v_aload_n X rfl dL_moves_77 ?_
    refine v_iload X rfl dL_moves_78 ?_
    refine v_iconst' X kc_5 dL_moves_80 ?_
    refine v_iadd' X (nI_add _ _) dL_moves_81 ?_
    refine v_iload_n X rfl dL_moves_82 ?_
    refine v_iadd' X (nI_add _ _) dL_moves_83 ?_
    refine v_iald' X (v := ((upd M (120 + 8 * a + (2 + b)) (M (120 + 8 * a + (2 + b)))) (120 + 8 * a + (5 + b)))) (rd_W1 γ _ _) ((((8 * a) + 5) + b)) rfl (by omega) (by decide) (w_at (i := (((8 * a) + 5) + b)) (j := 120 + 8 * a + (5 + b)) (by omega) (fw_lo (by omega) (by omega))) dL_moves_84 ?_
    refine v_iast X (rd_W1 γ _ _) ((((8 * a) + 5) + b)) rfl (by omega) (by decide) dL_moves_85 ?_
    refine v_eqh (up_W1 (i := (((8 * a) + 5) + b)) (j := 120 + 8 * a + (5 + b)) γ _ _ (by omega) (fw_lo (by omega) (by omega)) _) ?_
    subst hQ0
    exact v_vret X rfl (Nat.le_of_ble_eq_true rfl) (Nat.le_of_ble_eq_true rfl) dL_moves_86 ⟨rfl, congrArg (fun z => rdw γ (wset w 10 z)) (by unfold q_moves; first | rw [if_neg q1] | rw [if_pos q1, if_pos q2, upd_same rfl, upd_same rfl] | rw [if_pos q1, if_neg q2, upd_same rfl])⟩
  · refine v_bipush' X kb_8 dL_moves_0 ?_
    refine v_iload_n X rfl dL_moves_2 ?_
    refine v_imul' X (pk_mul _ _) dL_moves_3 ?_
    refine v_istore X (Nat.le_of_ble_eq_true rfl) rfl dL_moves_4 ?_
    refine v_aload_n X rfl dL_moves_6 ?_
    refine v_iload X rfl dL_moves_7 ?_
    refine v_iconst' X kc_2 dL_moves_9 ?_
    refine v_iadd' X (nI_add _ _) dL_moves_10 ?_
    refine v_iload_n X rfl dL_moves_11 ?_
    refine v_iadd' X (nI_add _ _) dL_moves_12 ?_
    refine v_iald' X (v := (M (120 + 8 * a + (2 + b)))) (rd_W1 γ _ _) ((((8 * a) + 2) + b)) rfl (by omega) (by decide) (w_at (i := (((8 * a) + 2) + b)) (j := 120 + 8 * a + (2 + b)) (by omega) (fw_lo (by omega) (by omega))) dL_moves_13 ?_
    refine v_if_le_f (tgt := 21) X dL_moves_14 (by decide) q2 ?_
    refine v_iconst' X kc_1 dL_moves_17 ?_
    refine v_goto (tgt := 22) X dL_moves_18 (by decide) ?_
    refine v_istore X (Nat.le_of_ble_eq_true rfl) rfl dL_moves_22 ?_
    refine v_aload_n X rfl dL_moves_24 ?_
    refine v_iload X rfl dL_moves_25 ?_
    refine v_iconst' X kc_2 dL_moves_27 ?_
    refine v_iadd' X (nI_add _ _) dL_moves_28 ?_
    refine v_iload_n X rfl dL_moves_29 ?_
    refine v_iadd' X (nI_add _ _) dL_moves_30 ?_
    refine v_iload_n X rfl dL_moves_31 ?_
    refine v_if_le_t (tgt := 39) X dL_moves_32 (by decide) q1 ?_
    refine v_aload_n X rfl dL_moves_39 ?_
    refine v_iload X rfl dL_moves_40 ?_
    refine v_iconst' X kc_2 dL_moves_42 ?_
    refine v_iadd' X (nI_add _ _) dL_moves_43 ?_
    refine v_iload_n X rfl dL_moves_44 ?_
    refine v_iadd' X (nI_add _ _) dL_moves_45 ?_
    refine v_iald' X (v := (M (120 + 8 * a + (2 + b)))) (rd_W1 γ _ _) ((((8 * a) + 2) + b)) rfl (by omega) (by decide) (w_at (i := (((8 * a) + 2) + b)) (j := 120 + 8 * a + (2 + b)) (by omega) (fw_lo (by omega) (by omega))) dL_moves_46 ?_
    refine v_iast X (rd_W1 γ _ _) ((((8 * a) + 2) + b)) rfl (by omega) (by decide) dL_moves_47 ?_
    refine v_eqh (up_W1 (i := (((8 * a) + 2) + b)) (j := 120 + 8 * a + (2 + b)) γ _ _ (by omega) (fw_lo (by omega) (by omega)) _) ?_
    refine v_aload_n X rfl dL_moves_48 ?_
    refine v_iload X rfl dL_moves_49 ?_
    refine v_iconst' X kc_5 dL_moves_51 ?_
    refine v_iadd' X (nI_add _ _) dL_moves_52 ?_
    refine v_iload_n X rfl dL_moves_53 ?_
    refine v_iadd' X (nI_add _ _) dL_moves_54 ?_
    refine v_iload_n X rfl dL_moves_55 ?_
    refine v_if_le_t (tgt := 65) X dL_moves_56 (by decide) q1 ?_
    refine v_iload X rfl dL_moves_65 ?_
    refine v_if_eq_f (tgt := 77) X dL_moves_67 (by decide) (by decide) ?_
    refine v_aload_n X rfl dL_moves_70 ?_
    refine v_bipush' X kb_59 dL_moves_71 ?_
    refine v_iald' X (v := ((upd M (120 + 8 * a + (2 + b)) (M (120 + 8 * a + (2 + b)))) (230))) (rd_W1 γ _ _) (59) rfl (by omega) (by decide) (w_at (i := 59) (j := 230) (by omega) rfl) dL_moves_73 ?_
    refine v_goto (tgt := 85) X dL_moves_74 (by decide) ?_
    refine v_iast X (rd_W1 γ _ _) ((((8 * a) + 5) + b)) rfl (by omega) (by decide) dL_moves_85 ?_
    refine v_eqh (up_W1 (i := (((8 * a) + 5) + b)) (j := 120 + 8 * a + (5 + b)) γ _ _ (by omega) (fw_lo (by omega) (by omega)) _) ?_
    subst hQ0
    exact v_vret X rfl (Nat.le_of_ble_eq_true rfl) (Nat.le_of_ble_eq_true rfl) dL_moves_86 ⟨rfl, congrArg (fun z => rdw γ (wset w 10 z)) (by unfold q_moves; first | rw [if_neg q1] | rw [if_pos q1, if_pos q2, upd_same rfl, upd_same rfl] | rw [if_pos q1, if_neg q2, upd_same rfl])⟩
  · refine v_bipush' X kb_8 dL_moves_0 ?_
    refine v_iload_n X rfl dL_moves_2 ?_
    refine v_imul' X (pk_mul _ _) dL_moves_3 ?_
    refine v_istore X (Nat.le_of_ble_eq_true rfl) rfl dL_moves_4 ?_
    refine v_aload_n X rfl dL_moves_6 ?_
    refine v_iload X rfl dL_moves_7 ?_
    refine v_iconst' X kc_2 dL_moves_9 ?_
    refine v_iadd' X (nI_add _ _) dL_moves_10 ?_
    refine v_iload_n X rfl dL_moves_11 ?_
    refine v_iadd' X (nI_add _ _) dL_moves_12 ?_
    refine v_iald' X (v := (M (120 + 8 * a + (2 + b)))) (rd_W1 γ _ _) ((((8 * a) + 2) + b)) rfl (by omega) (by decide) (w_at (i := (((8 * a) + 2) + b)) (j := 120 + 8 * a + (2 + b)) (by omega) (fw_lo (by omega) (by omega))) dL_moves_13 ?_
    refine v_if_le_t (tgt := 21) X dL_moves_14 (by decide) q2 ?_
    refine v_iconst' X kc_0 dL_moves_21 ?_
    refine v_istore X (Nat.le_of_ble_eq_true rfl) rfl dL_moves_22 ?_
    refine v_aload_n X rfl dL_moves_24 ?_
    refine v_iload X rfl dL_moves_25 ?_
    refine v_iconst' X kc_2 dL_moves_27 ?_
    refine v_iadd' X (nI_add _ _) dL_moves_28 ?_
    refine v_iload_n X rfl dL_moves_29 ?_
    refine v_iadd' X (nI_add _ _) dL_moves_30 ?_
    refine v_iload_n X rfl dL_moves_31 ?_
    refine v_if_le_f (tgt := 39) X dL_moves_32 (by decide) q1 ?_
    refine v_iload_n X rfl dL_moves_35 ?_
    refine v_goto (tgt := 47) X dL_moves_36 (by decide) ?_
    refine v_iast X (rd_W1 γ _ _) ((((8 * a) + 2) + b)) rfl (by omega) (by decide) dL_moves_47 ?_
    refine v_eqh (up_W1 (i := (((8 * a) + 2) + b)) (j := 120 + 8 * a + (2 + b)) γ _ _ (by omega) (fw_lo (by omega) (by omega)) _) ?_
    refine v_aload_n X rfl dL_moves_48 ?_
    refine v_iload X rfl dL_moves_49 ?_
    refine v_iconst' X kc_5 dL_moves_51 ?_
    refine v_iadd' X (nI_add _ _) dL_moves_52 ?_
    refine v_iload_n X rfl dL_moves_53 ?_
    refine v_iadd' X (nI_add _ _) dL_moves_54 ?_
    refine v_iload_n X rfl dL_moves_55 ?_
    refine v_if_le_f (tgt := 65) X dL_moves_56 (by decide) q1 ?_
    refine v_sipush' X ks_m1001 dL_moves_59 ?_
    refine v_goto (tgt := 85) X dL_moves_62 (by decide) ?_
    refine v_iast X (rd_W1 γ _ _) ((((8 * a) + 5) + b)) rfl (by omega) (by decide) dL_moves_85 ?_
    refine v_eqh (up_W1 (i := (((8 * a) + 5) + b)) (j := 120 + 8 * a + (5 + b)) γ _ _ (by omega) (fw_lo (by omega) (by omega)) _) ?_
    subst hQ0
    exact v_vret X rfl (Nat.le_of_ble_eq_true rfl) (Nat.le_of_ble_eq_true rfl) dL_moves_86 ⟨rfl, congrArg (fun z => rdw γ (wset w 10 z)) (by unfold q_moves; first | rw [if_neg q1] | rw [if_pos q1, if_pos q2, upd_same rfl, upd_same rfl] | rw [if_pos q1, if_neg q2, upd_same rfl])⟩
  · refine v_bipush' X kb_8 dL_moves_0 ?_
    refine v_iload_n X rfl dL_moves_2 ?_
    refine v_imul' X (pk_mul _ _) dL_moves_3 ?_
    refine v_istore X (Nat.le_of_ble_eq_true rfl) rfl dL_moves_4 ?_
    refine v_aload_n X rfl dL_moves_6 ?_
    refine v_iload X rfl dL_moves_7 ?_
    refine v_iconst' X kc_2 dL_moves_9 ?_
    refine v_iadd' X (nI_add _ _) dL_moves_10 ?_
    refine v_iload_n X rfl dL_moves_11 ?_
    refine v_iadd' X (nI_add _ _) dL_moves_12 ?_
    refine v_iald' X (v := (M (120 + 8 * a + (2 + b)))) (rd_W1 γ _ _) ((((8 * a) + 2) + b)) rfl (by omega) (by decide) (w_at (i := (((8 * a) + 2) + b)) (j := 120 + 8 * a + (2 + b)) (by omega) (fw_lo (by omega) (by omega))) dL_moves_13 ?_
    refine v_if_le_f (tgt := 21) X dL_moves_14 (by decide) q2 ?_
    refine v_iconst' X kc_1 dL_moves_17 ?_
    refine v_goto (tgt := 22) X dL_moves_18 (by decide) ?_
    refine v_istore X (Nat.le_of_ble_eq_true rfl) rfl dL_moves_22 ?_
    refine v_aload_n X rfl dL_moves_24 ?_
    refine v_iload X rfl dL_moves_25 ?_
    refine v_iconst' X kc_2 dL_moves_27 ?_
    refine v_iadd' X (nI_add _ _) dL_moves_28 ?_
    refine v_iload_n X rfl dL_moves_29 ?_
    refine v_iadd' X (nI_add _ _) dL_moves_30 ?_
    refine v_iload_n X rfl dL_moves_31 ?_
    refine v_if_le_f (tgt := 39) X dL_moves_32 (by decide) q1 ?_
    refine v_iload_n X rfl dL_moves_35 ?_
    refine v_goto (tgt := 47) X dL_moves_36 (by decide) ?_
    refine v_iast X (rd_W1 γ _ _) ((((8 * a) + 2) + b)) rfl (by omega) (by decide) dL_moves_47 ?_
    refine v_eqh (up_W1 (i := (((8 * a) + 2) + b)) (j := 120 + 8 * a + (2 + b)) γ _ _ (by omega) (fw_lo (by omega) (by omega)) _) ?_
    refine v_aload_n X rfl dL_moves_48 ?_
    refine v_iload X rfl dL_moves_49 ?_
    refine v_iconst' X kc_5 dL_moves_51 ?_
    refine v_iadd' X (nI_add _ _) dL_moves_52 ?_
    refine v_iload_n X rfl dL_moves_53 ?_
    refine v_iadd' X (nI_add _ _) dL_moves_54 ?_
    refine v_iload_n X rfl dL_moves_55 ?_
    refine v_if_le_f (tgt := 65) X dL_moves_56 (by decide) q1 ?_
    refine v_sipush' X ks_m1001 dL_moves_59 ?_
    refine v_goto (tgt := 85) X dL_moves_62 (by decide) ?_
    refine v_iast X (rd_W1 γ _ _) ((((8 * a) + 5) + b)) rfl (by omega) (by decide) dL_moves_85 ?_
    refine v_eqh (up_W1 (i := (((8 * a) + 5) + b)) (j := 120 + 8 * a + (5 + b)) γ _ _ (by omega) (fw_lo (by omega) (by omega)) _) ?_
    subst hQ0
    exact v_vret X rfl (Nat.le_of_ble_eq_true rfl) (Nat.le_of_ble_eq_true rfl) dL_moves_86 ⟨rfl, congrArg (fun z => rdw γ (wset w 10 z)) (by unfold q_moves; first | rw [if_neg q1] | rw [if_pos q1, if_pos q2, upd_same rfl, upd_same rfl] | rw [if_pos q1, if_neg q2, upd_same rfl])⟩
set_option maxHeartbeats 4000000 in
set_option maxRecDepth 100000 in
theorem c_L_couples (l : Launch) (γ : Gm) (w : Wd) (M : Nat → Int32) (x : Int32) : Cr l γ yL_couples cL_couples 3 none 0 0 0 0 [.ref (γ.1 + 87), .int x] (rdw γ (wset w 10 M)) (Det none (rdw γ (wset w 10 (q_couples M x)))) := by
  refine Cr_of [some (.ref (γ.1 + 87)), some (.int x), none] (by decide +kernel) (Nat.le_of_ble_eq_true rfl) rfl ?_
  intro p e s m args below meth c X
  refine v_q0 (fun Q0 hQ0 => ?_)
  refine v_iconst' X kc_0 dL_couples_0 ?_
  refine v_istore_n X (Nat.le_of_ble_eq_true rfl) rfl dL_couples_1 ?_
  have lpw : ∀ (n : Nat) (a : Nat), a ≤ 48 ∧ 49 ≤ a + n → V p l e { frames := 0, cells := 0, slots := 0, locals := 0 } s m args below meth c γ Q0 (rdw γ (wset w 10 (q_clrN M a))) 0 0 2 [some (.ref (γ.1 + 87)), some (.int x), some (.int (nI a))] [] := by
    intro n
    induction n with
    | zero =>
      intro a hbd
      exact absurd hbd (by omega)
    | succ n ih =>
      intro a hbd
      refine v_iload_n X rfl dL_couples_2 ?_
      refine v_bipush' X kb_48 dL_couples_3 ?_
      refine v_icmp_ge_n (tgt := 32) X dL_couples_5 (by decide) (by omega) (by omega) (fun c_1 => ?_) (fun c_1 => ?_)
      · have ha : a = 48 := by omega
        subst ha
        refine v_aload_n X rfl dL_couples_32 ?_
        refine v_bipush' X kb_48 dL_couples_33 ?_
        refine v_iload_n X rfl dL_couples_35 ?_
        refine v_iast X (rd_W1 γ _ _) (48) rfl (by omega) (by decide) dL_couples_36 ?_
        refine v_eqh (up_W1 (i := 48) (j := 218) γ _ _ (by omega) rfl _) ?_
        refine v_aload_n X rfl dL_couples_37 ?_
        refine v_bipush' X kb_49 dL_couples_38 ?_
        refine v_iconst' X kc_m1 dL_couples_40 ?_
        refine v_iast X (rd_W1 γ _ _) (49) rfl (by omega) (by decide) dL_couples_41 ?_
        refine v_eqh (up_W1 (i := 49) (j := 219) γ _ _ (by omega) rfl _) ?_
        refine v_aload_n X rfl dL_couples_42 ?_
        refine v_bipush' X kb_50 dL_couples_43 ?_
        refine v_iconst' X kc_0 dL_couples_45 ?_
        refine v_iast X (rd_W1 γ _ _) (50) rfl (by omega) (by decide) dL_couples_46 ?_
        refine v_eqh (up_W1 (i := 50) (j := 220) γ _ _ (by omega) rfl _) ?_
        refine v_aload_n X rfl dL_couples_47 ?_
        refine v_bipush' X kb_51 dL_couples_48 ?_
        refine v_iconst' X kc_0 dL_couples_50 ?_
        refine v_iast X (rd_W1 γ _ _) (51) rfl (by omega) (by decide) dL_couples_51 ?_
        refine v_eqh (up_W1 (i := 51) (j := 221) γ _ _ (by omega) rfl _) ?_
        subst hQ0
        exact v_vret X rfl (Nat.le_of_ble_eq_true rfl) (Nat.le_of_ble_eq_true rfl) dL_couples_52 ⟨rfl, rfl⟩
      · refine v_aload_n X rfl dL_couples_8 ?_
        refine v_iload_n X rfl dL_couples_9 ?_
        refine v_iload_n X rfl dL_couples_10 ?_
        refine v_bipush' X kb_8 dL_couples_11 ?_
        refine v_irem' X (by omega) (by decide) (by decide) dL_couples_13 ?_
        refine v_iconst' X kc_4 dL_couples_14 ?_
        refine v_icmp_le_n (tgt := 24) X dL_couples_15 (by decide) (by omega) (by omega) (fun c_2 => ?_) (fun c_2 => ?_)
        · refine v_iconst' X kc_0 dL_couples_24 ?_
          refine v_iast X (rd_W1 γ _ _) (a) rfl (by omega) (by decide) dL_couples_25 ?_
          refine v_eqh (up_W1 (i := a) (j := 120 + a) γ _ _ (by omega) (fw_lo (by omega) (by omega)) _) ?_
          rw [q_clrS M a (by unfold q_cl; first | rw [if_pos (by omega)] | rw [if_neg (by omega)])]
          refine v_iinc' X rfl rfl (nI_inc _) dL_couples_26 ?_
          refine v_goto (tgt := 2) X dL_couples_29 (by decide) ?_
          exact (ih (a + 1) ⟨by omega, by omega⟩)
        · refine v_sipush' X ks_m1001 dL_couples_18 ?_
          refine v_goto (tgt := 25) X dL_couples_21 (by decide) ?_
          refine v_iast X (rd_W1 γ _ _) (a) rfl (by omega) (by decide) dL_couples_25 ?_
          refine v_eqh (up_W1 (i := a) (j := 120 + a) γ _ _ (by omega) (fw_lo (by omega) (by omega)) _) ?_
          rw [q_clrS M a (by unfold q_cl; first | rw [if_pos (by omega)] | rw [if_neg (by omega)])]
          refine v_iinc' X rfl rfl (nI_inc _) dL_couples_26 ?_
          refine v_goto (tgt := 2) X dL_couples_29 (by decide) ?_
          exact (ih (a + 1) ⟨by omega, by omega⟩)
  have hz := lpw 49 0 ⟨by omega, by omega⟩
  rw [q_clr0] at hz
  exact (hz)
set_option maxHeartbeats 4000000 in
set_option maxRecDepth 100000 in
theorem c_L_begins (l : Launch) (γ : Gm) (w : Wd) (M : Nat → Int32) : Cr l γ yL_begins cL_begins 1 none 1 22 0 0 [.ref (γ.1 + 87)] (rdw γ (wset w 10 M)) (Det none (rdw γ (wset w 10 (upd (upd (upd (upd (upd (q_couples M (nI 3)) 228 (nI 4)) 229 (nI 12)) 230 (nI 1)) 231 (nI 100)) 232 (nI 8))))) := by
  refine Cr_of [some (.ref (γ.1 + 87))] (by decide +kernel) (Nat.le_of_ble_eq_true rfl) rfl ?_
  intro p e s m args below meth c X
  refine v_q0 (fun Q0 hQ0 => ?_)
  refine v_aload_n X rfl dL_begins_0 ?_
  refine v_iconst' X kc_3 dL_begins_1 ?_
  refine v_callS X ms_L_9 (c_L_couples l γ w M (nI 3)) rfl ⟨Nat.le_of_ble_eq_true rfl, Nat.le_of_ble_eq_true rfl, Nat.le_of_ble_eq_true rfl, Nat.le_of_ble_eq_true rfl⟩ (Nat.le_of_ble_eq_true rfl) rfl dL_begins_2 rfl (det_v ?_)
  refine v_aload_n X rfl dL_begins_5 ?_
  refine v_bipush' X kb_57 dL_begins_6 ?_
  refine v_iconst' X kc_4 dL_begins_8 ?_
  refine v_iast X (rd_W1 γ _ _) (57) rfl (by omega) (by decide) dL_begins_9 ?_
  refine v_eqh (up_W1 (i := 57) (j := 228) γ _ _ (by omega) rfl _) ?_
  refine v_aload_n X rfl dL_begins_10 ?_
  refine v_bipush' X kb_58 dL_begins_11 ?_
  refine v_bipush' X kb_12 dL_begins_13 ?_
  refine v_iast X (rd_W1 γ _ _) (58) rfl (by omega) (by decide) dL_begins_15 ?_
  refine v_eqh (up_W1 (i := 58) (j := 229) γ _ _ (by omega) rfl _) ?_
  refine v_aload_n X rfl dL_begins_16 ?_
  refine v_bipush' X kb_59 dL_begins_17 ?_
  refine v_iconst' X kc_1 dL_begins_19 ?_
  refine v_iast X (rd_W1 γ _ _) (59) rfl (by omega) (by decide) dL_begins_20 ?_
  refine v_eqh (up_W1 (i := 59) (j := 230) γ _ _ (by omega) rfl _) ?_
  refine v_aload_n X rfl dL_begins_21 ?_
  refine v_bipush' X kb_60 dL_begins_22 ?_
  refine v_bipush' X kb_100 dL_begins_24 ?_
  refine v_iast X (rd_W1 γ _ _) (60) rfl (by omega) (by decide) dL_begins_26 ?_
  refine v_eqh (up_W1 (i := 60) (j := 231) γ _ _ (by omega) rfl _) ?_
  refine v_aload_n X rfl dL_begins_27 ?_
  refine v_bipush' X kb_61 dL_begins_28 ?_
  refine v_bipush' X kb_8 dL_begins_30 ?_
  refine v_iast X (rd_W1 γ _ _) (61) rfl (by omega) (by decide) dL_begins_32 ?_
  refine v_eqh (up_W1 (i := 61) (j := 232) γ _ _ (by omega) rfl _) ?_
  subst hQ0
  exact v_vret X rfl (Nat.le_of_ble_eq_true rfl) (Nat.le_of_ble_eq_true rfl) dL_begins_33 ⟨rfl, rfl⟩
set_option maxHeartbeats 4000000 in
set_option maxRecDepth 100000 in
theorem c_L_orders (l : Launch) (γ : Gm) (w : Wd) : Cr l γ yL_orders cL_orders 6 none 1 25 0 0 [.ref (γ.1 + 87), .ref (γ.1 + 88)] (rdw γ w) (Det none (rdw γ w)) := by
  refine Cr_of [some (.ref (γ.1 + 87)), some (.ref (γ.1 + 88)), none, none, none, none] (by decide +kernel) (Nat.le_of_ble_eq_true rfl) rfl ?_
  intro p e s m args below meth c X
  refine v_q0 (fun Q0 hQ0 => ?_)
  refine v_iconst' X kc_0 dL_orders_0 ?_
  refine v_istore_n X (Nat.le_of_ble_eq_true rfl) rfl dL_orders_1 ?_
  refine v_iload_n X rfl dL_orders_2 ?_
  refine v_aload_n X rfl dL_orders_3 ?_
  refine v_bipush' X kb_60 dL_orders_4 ?_
  refine v_iald' (v := nI 0) X (rd_Q γ _) 60 rfl (by decide) (by decide) z_nI dL_orders_6 ?_
  refine v_icmp_ge_t (tgt := 143) X dL_orders_7 (by decide) (by decide) ?_
  subst hQ0
  exact v_vret X rfl (Nat.le_of_ble_eq_true rfl) (Nat.le_of_ble_eq_true rfl) dL_orders_143 ⟨rfl, rfl⟩
set_option maxHeartbeats 4000000 in
set_option maxRecDepth 100000 in
theorem c_L_inWagons (l : Launch) (γ : Gm) (w : Wd) (M : Nat → Int32) : Cr l γ yL_inWagons cL_inWagons 1 (some .int) 0 0 0 0 [.ref (γ.1 + 87)] (rdw γ (wset w 10 M)) (Det (some (.int (s_inW M 6))) (rdw γ (wset w 10 (M)))) := by
  refine Cr_of [some (.ref (γ.1 + 87))] (by decide +kernel) (Nat.le_of_ble_eq_true rfl) rfl ?_
  intro p e s m args below meth c X
  refine v_q0 (fun Q0 hQ0 => ?_)
  refine v_aload_n X rfl dL_inWagons_0 ?_
  refine v_iconst' X kc_0 dL_inWagons_1 ?_
  refine v_iald' X (v := (M (120))) (rd_W1 γ _ _) (0) rfl (by omega) (by decide) (w_at (i := 0) (j := 120) (by omega) rfl) dL_inWagons_2 ?_
  refine v_aload_n X rfl dL_inWagons_3 ?_
  refine v_bipush' X kb_8 dL_inWagons_4 ?_
  refine v_iald' X (v := (M (128))) (rd_W1 γ _ _) (8) rfl (by omega) (by decide) (w_at (i := 8) (j := 128) (by omega) rfl) dL_inWagons_6 ?_
  refine v_iadd X dL_inWagons_7 ?_
  refine v_aload_n X rfl dL_inWagons_8 ?_
  refine v_bipush' X kb_16 dL_inWagons_9 ?_
  refine v_iald' X (v := (M (136))) (rd_W1 γ _ _) (16) rfl (by omega) (by decide) (w_at (i := 16) (j := 136) (by omega) rfl) dL_inWagons_11 ?_
  refine v_iadd X dL_inWagons_12 ?_
  refine v_aload_n X rfl dL_inWagons_13 ?_
  refine v_bipush' X kb_24 dL_inWagons_14 ?_
  refine v_iald' X (v := (M (144))) (rd_W1 γ _ _) (24) rfl (by omega) (by decide) (w_at (i := 24) (j := 144) (by omega) rfl) dL_inWagons_16 ?_
  refine v_iadd X dL_inWagons_17 ?_
  refine v_aload_n X rfl dL_inWagons_18 ?_
  refine v_bipush' X kb_32 dL_inWagons_19 ?_
  refine v_iald' X (v := (M (152))) (rd_W1 γ _ _) (32) rfl (by omega) (by decide) (w_at (i := 32) (j := 152) (by omega) rfl) dL_inWagons_21 ?_
  refine v_iadd X dL_inWagons_22 ?_
  refine v_aload_n X rfl dL_inWagons_23 ?_
  refine v_bipush' X kb_40 dL_inWagons_24 ?_
  refine v_iald' X (v := (M (160))) (rd_W1 γ _ _) (40) rfl (by omega) (by decide) (w_at (i := 40) (j := 160) (by omega) rfl) dL_inWagons_26 ?_
  refine v_iadd X dL_inWagons_27 ?_
  subst hQ0
  exact v_iret X rfl (Nat.le_of_ble_eq_true rfl) (Nat.le_of_ble_eq_true rfl) dL_inWagons_28 ⟨so_some (by show _ = nI 0 + M 120 + M 128 + M 136 + M 144 + M 152 + M 160; rw [nI_0, Int32.zero_add]), rfl⟩
set_option maxHeartbeats 4000000 in
set_option maxRecDepth 100000 in
theorem c_L_sum (l : Launch) (γ : Gm) (w : Wd) (M : Nat → Int32) (hB : HB M 1000) (b : Nat) (hb : b < 3) : Cr l γ yL_sum cL_sum 4 (some .int) 1 22 0 0 [.ref (γ.1 + 86), .int (nI b)] (rdw γ (wset w 10 M)) (Det (some (.int (s_sum M b 40))) (rdw γ (wset w 10 (M)))) := by
  refine Cr_of [some (.ref (γ.1 + 86)), some (.int (nI b)), none, none] (by decide +kernel) (Nat.le_of_ble_eq_true rfl) rfl ?_
  intro p e s m args below meth c X
  refine v_q0 (fun Q0 hQ0 => ?_)
  refine v_iconst' X kc_0 dL_sum_0 ?_
  refine v_istore_n X (Nat.le_of_ble_eq_true rfl) rfl dL_sum_1 ?_
  refine v_iconst' X kc_0 dL_sum_2 ?_
  refine v_istore_n X (Nat.le_of_ble_eq_true rfl) rfl dL_sum_3 ?_
  have lp4 : ∀ (n : Nat) (a : Nat), a ≤ 40 ∧ 41 ≤ a + n → V p l e { frames := 1, cells := 0, slots := 0, locals := 22 } s m args below meth c γ Q0 (rdw γ (wset w 10 M)) 0 0 4 [some (.ref (γ.1 + 86)), some (.int (nI b)), some (.int (s_sum M b a)), some (.int (nI a))] [] := by
    intro n
    induction n with
    | zero =>
      intro a hbd
      exact absurd hbd (by omega)
    | succ n ih =>
      intro a hbd
      refine v_iload_n X rfl dL_sum_4 ?_
      refine v_bipush' X kb_40 dL_sum_5 ?_
      refine v_icmp_ge_n (tgt := 25) X dL_sum_7 (by decide) (by omega) (by omega) (fun c_1 => ?_) (fun c_1 => ?_)
      · have ha : a = 40 := by omega
        subst ha
        refine v_iload_n X rfl dL_sum_25 ?_
        subst hQ0
        exact v_iret X rfl (Nat.le_of_ble_eq_true rfl) (Nat.le_of_ble_eq_true rfl) dL_sum_26 ⟨rfl, rfl⟩
      · refine v_iload_n X rfl dL_sum_10 ?_
        refine v_aload_n X rfl dL_sum_11 ?_
        refine v_iload_n X rfl dL_sum_12 ?_
        refine v_iload_n X rfl dL_sum_13 ?_
        refine v_callS X ms_L_29 (c_L_height l γ w M hB a b (by omega) hb) rfl ⟨Nat.le_of_ble_eq_true rfl, Nat.le_of_ble_eq_true rfl, Nat.le_of_ble_eq_true rfl, Nat.le_of_ble_eq_true rfl⟩ (Nat.le_of_ble_eq_true rfl) rfl dL_sum_14 rfl (det_i ?_)
        refine v_iadd X dL_sum_17 ?_
        refine v_istore_n X (Nat.le_of_ble_eq_true rfl) rfl dL_sum_18 ?_
        refine v_iinc' X rfl rfl (nI_inc _) dL_sum_19 ?_
        refine v_goto (tgt := 4) X dL_sum_22 (by decide) ?_
        exact (ih (a + 1) ⟨by omega, by omega⟩)
  exact (lp4 41 0 ⟨by omega, by omega⟩)
