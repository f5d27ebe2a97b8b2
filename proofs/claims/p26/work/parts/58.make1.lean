/-! what is made: a stretch of the heap -/
def reg (h : HP) (a : Nat) (L : List va_E) : HP := (fun x => if x < a then h.1 x else L[x - a]?, a + L.length)
theorem reg_new (h : HP) (a : Nat) (L : List va_E) (e : va_E) : hnew (reg h a L) e = reg h a (L ++ [e]) := by
  refine Prod.ext (funext fun x => ?_) ?_
  · by_cases hx : x = a + L.length
    · subst hx
      rw [show a + L.length = (reg h a L).2 from rfl, hnew_at]
      show some e = if a + L.length < a then _ else (L ++ [e])[a + L.length - a]?
      rw [if_neg (by omega), Nat.add_sub_cancel_left, List.getElem?_append_right (Nat.le_refl _), Nat.sub_self]
      rfl
    · rw [hnew_off _ _ (show x ≠ (reg h a L).2 from hx)]
      show (if x < a then h.1 x else L[x - a]?) = if x < a then h.1 x else (L ++ [e])[x - a]?
      by_cases h1 : x < a
      · rw [if_pos h1, if_pos h1]
      · rw [if_neg h1, if_neg h1]
        by_cases h2 : x - a < L.length
        · rw [List.getElem?_append_left h2]
        · rw [List.getElem?_eq_none (by omega), List.getElem?_eq_none (by rw [List.length_append]; show L.length + 1 ≤ _; omega)]
  · show a + L.length + 1 = a + (L ++ [e]).length
    rw [List.length_append]; rfl
theorem reg_set (h : HP) (a : Nat) (L : List va_E) (i : Nat) (e : va_E) (hi : i < L.length) : hset (reg h a L) (a + i) e = reg h a (L.set i e) := by
  refine Prod.ext (funext fun x => ?_) ?_
  · by_cases hx : x = a + i
    · subst hx
      rw [hset_at]
      show some e = if a + i < a then _ else (L.set i e)[a + i - a]?
      rw [if_neg (by omega), Nat.add_sub_cancel_left, List.getElem?_set_self hi]
    · rw [hset_off _ _ hx]
      show (if x < a then h.1 x else L[x - a]?) = if x < a then h.1 x else (L.set i e)[x - a]?
      by_cases h1 : x < a
      · rw [if_pos h1, if_pos h1]
      · rw [if_neg h1, if_neg h1, List.getElem?_set_ne (by omega)]
  · show a + L.length = a + (L.set i e).length
    rw [List.length_set]
theorem reg_at (h : HP) (a : Nat) (L : List va_E) (i : Nat) {e : va_E} (he : L[i]? = some e) : (reg h a L).1 (a + i) = some e := by
  show (if a + i < a then _ else L[a + i - a]?) = _
  rw [if_neg (by omega), Nat.add_sub_cancel_left, he]
theorem reg_reg (h : HP) (a : Nat) (L L2 L3 : List va_E) : reg (reg h a (L ++ L2)) (a + L.length) L3 = reg h a (L ++ L3) := by
  refine Prod.ext (funext fun x => ?_) ?_
  · show (if x < a + L.length then (if x < a then h.1 x else (L ++ L2)[x - a]?) else L3[x - (a + L.length)]?) = if x < a then h.1 x else (L ++ L3)[x - a]?
    by_cases h1 : x < a
    · rw [if_pos (by omega), if_pos h1, if_pos h1]
    · rw [if_neg h1, if_neg h1]
      by_cases h2 : x < a + L.length
      · rw [if_pos h2, List.getElem?_append_left (by omega), List.getElem?_append_left (by omega)]
      · rw [if_neg h2, List.getElem?_append_right (by omega), show x - (a + L.length) = x - a - L.length by omega]
  · show a + L.length + L3.length = a + (L ++ L3).length
    rw [List.length_append, Nat.add_assoc]
theorem reg_c {h : HP} {a : Nat} {L L' : List va_E} (e : L = L') : reg h a L = reg h a L' := by rw [e]
theorem reg_le {h : HP} {b : Nat} {e : va_E} (h2 : h.2 = b + 1) (hb : h.1 b = some e) : (reg h b [e]).2 = h.2 ∧ ∀ x y, (reg h b [e]).1 x = some y → h.1 x = some y := by
  refine ⟨h2.symm, fun x y hx => ?_⟩
  have hx : (if x < b then h.1 x else [e][x - b]?) = some y := hx
  by_cases h1 : x < b
  · rw [if_pos h1] at hx; exact hx
  · rw [if_neg h1] at hx
    by_cases h3 : x = b
    · subst h3
      rw [Nat.sub_self] at hx
      rw [hb]; exact hx
    · rw [List.getElem?_eq_none (by show 1 ≤ _; omega)] at hx
      exact absurd hx (by simp)
set_option maxHeartbeats 4000000 in
set_option maxRecDepth 100000 in
theorem c_Jxa1e45_init_da8c8 (l : Launch) (γ : Gm) (h : HP) (b : Nat) : Cr l γ yJxa1e45_init_da8c8 cJxa1e45_init_da8c8 1 none 1 24 0 0 [.ref b] (h) (Det none h) := by
  refine Cr_of [some (.ref b)] (by decide +kernel) (Nat.le_of_ble_eq_true rfl) rfl ?_
  intro p e s m args below meth c X
  refine v_q0 (fun Q0 hQ0 => ?_)
  refine v_aload_n X rfl dJxa1e45_init_da8c8_0 ?_
  refine v_objInit X oi_Jxa1e45_1 (Nat.le_of_ble_eq_true rfl) (Nat.le_of_ble_eq_true rfl) rfl dJxa1e45_init_da8c8_1 ?_
  subst hQ0
  exact v_vret X rfl (Nat.le_of_ble_eq_true rfl) (Nat.le_of_ble_eq_true rfl) dJxa1e45_init_da8c8_4 ⟨rfl, rfl⟩
set_option maxHeartbeats 4000000 in
set_option maxRecDepth 100000 in
theorem c_Jxc12de_init_da8c8 (l : Launch) (γ : Gm) (h : HP) (b : Nat) (y : Int32) (r : Value) (z : Value) (hb : h.1 b = some (.inr (0, [.int y, r, z]))) : Cr l γ yJxc12de_init_da8c8 cJxc12de_init_da8c8 1 none 2 44 0 0 [.ref b] (h) (Det none (hset h b (.inr (0, [.int (nI 0), r, z])))) := by
  refine Cr_of [some (.ref b)] (by decide +kernel) (Nat.le_of_ble_eq_true rfl) rfl ?_
  intro p e s m args below meth c X
  refine v_q0 (fun Q0 hQ0 => ?_)
  refine v_aload_n X rfl dJxc12de_init_da8c8_0 ?_
  refine v_callI X mi_Jxc12de_1 (c_Jxa1e45_init_da8c8 l γ _ b) rfl ⟨Nat.le_of_ble_eq_true rfl, Nat.le_of_ble_eq_true rfl, Nat.le_of_ble_eq_true rfl, Nat.le_of_ble_eq_true rfl⟩ (Nat.le_of_ble_eq_true rfl) rfl dJxc12de_init_da8c8_1 rfl (det_v ?_)
  refine v_aload_n X rfl dJxc12de_init_da8c8_4 ?_
  refine v_iconst' X kc_0 dJxc12de_init_da8c8_5 ?_
  refine v_putf X fp_Jxc12de_7 hb rfl rfl (Nat.le_of_ble_eq_true rfl) dJxc12de_init_da8c8_6 ?_
  skip
  subst hQ0
  exact v_vret X rfl (Nat.le_of_ble_eq_true rfl) (Nat.le_of_ble_eq_true rfl) dJxc12de_init_da8c8_9 ⟨rfl, rfl⟩
set_option maxHeartbeats 4000000 in
set_option maxRecDepth 100000 in
theorem c_Jx4a65c_init_da8c8 (l : Launch) (γ : Gm) (h : HP) (b : Nat) (hb : h.1 b = some (.inr (0, [.int 0, .null, .int 0]))) : Cr l γ yJx4a65c_init_da8c8 cJx4a65c_init_da8c8 1 none 3 64 0 0 [.ref b] (h) (Det none (hset h b (.inr (0, [.int (nI 0), .ref (γ.2.2.2 2), .int 0])))) := by
  refine Cr_of [some (.ref b)] (by decide +kernel) (Nat.le_of_ble_eq_true rfl) rfl ?_
  intro p e s m args below meth c X
  refine v_q0 (fun Q0 hQ0 => ?_)
  refine v_aload_n X rfl dJx4a65c_init_da8c8_0 ?_
  refine v_callI X mi_Jx4a65c_1 (c_Jxc12de_init_da8c8 l γ _ b _ _ _ hb) rfl ⟨Nat.le_of_ble_eq_true rfl, Nat.le_of_ble_eq_true rfl, Nat.le_of_ble_eq_true rfl, Nat.le_of_ble_eq_true rfl⟩ (Nat.le_of_ble_eq_true rfl) rfl dJx4a65c_init_da8c8_1 rfl (det_v ?_)
  refine v_aload_n X rfl dJx4a65c_init_da8c8_4 ?_
  refine v_gets X (cx_empZ X) gs_Jx4a65c_39 dJx4a65c_init_da8c8_5 ?_
  refine v_putf X fp_Jx4a65c_9 (hset_at _ _ _) rfl rfl (Nat.le_of_ble_eq_true rfl) dJx4a65c_init_da8c8_8 ?_
  refine v_eqh (hset_hset _ _ _ _) ?_
  subst hQ0
  exact v_vret X rfl (Nat.le_of_ble_eq_true rfl) (Nat.le_of_ble_eq_true rfl) dJx4a65c_init_da8c8_11 ⟨rfl, rfl⟩
set_option maxHeartbeats 4000000 in
set_option maxRecDepth 100000 in
theorem c_X4_init (l : Launch) (γ : Gm) (h : HP) (b : Nat) (h2 : h.2 = b + 1) (hb : h.1 b = some (.inr (4, [.null]))) : Cr l γ yX4_init cX4_init 1 none 1 24 1 120 [.ref b] (h) (Det none (reg h b [.inr (4, [.ref (b + 1)]), iE γ 120 (fun _ => 0)])) := by
  refine Cr_of [some (.ref b)] (by decide +kernel) (Nat.le_of_ble_eq_true rfl) rfl ?_
  intro p e s m args below meth c X
  refine v_q0 (fun Q0 hQ0 => ?_)
  refine v_le (reg_le h2 hb) ?_
  refine v_aload_n X rfl dX4_init_0 ?_
  refine v_objInit X oi_X4_3 (Nat.le_of_ble_eq_true rfl) (Nat.le_of_ble_eq_true rfl) rfl dX4_init_1 ?_
  refine v_aload_n X rfl dX4_init_4 ?_
  refine v_bipush' X kb_120 dX4_init_5 ?_
  refine v_newarr X 120 rfl (by decide) ac_int (Nat.le_of_ble_eq_true rfl) (Nat.le_of_ble_eq_true rfl) dX4_init_7 ?_
  refine v_eqh (reg_new _ _ _ _) ?_
  refine v_eqh (reg_c (L' := [.inr (4, [.null]), iE γ 120 (fun _ => 0)]) rfl) ?_
  refine v_putF X fp_X4_9 rfl (reg_at h b _ 0 rfl) rfl rfl (Nat.le_of_ble_eq_true rfl) dX4_init_9 ?_
  refine v_eqh (reg_set h b _ 0 _ (Nat.le_of_ble_eq_true rfl)) ?_
  refine v_eqh (reg_c (L' := [.inr (4, [.ref (b + 1)]), iE γ 120 (fun _ => 0)]) rfl) ?_
  subst hQ0
  exact v_vret X rfl (Nat.le_of_ble_eq_true rfl) (Nat.le_of_ble_eq_true rfl) dX4_init_12 ⟨rfl, rfl⟩
set_option maxHeartbeats 4000000 in
set_option maxRecDepth 100000 in
theorem c_X5_init (l : Launch) (γ : Gm) (h : HP) (b : Nat) (h2 : h.2 = b + 1) (hb : h.1 b = some (.inr (5, [.int 0, .int 0, .int 0, .int 0, .null, .null, .null, .null]))) : Cr l γ yX5_init cX5_init 1 none 1 24 4 48 [.ref b] (h) (Det none (reg h b [.inr (5, [.int (nI 3), .int (-1), .int (nI 0), .int (nI 0), .ref (b + 1), .ref (b + 2), .ref (b + 3), .ref (b + 4)]), iE γ 6 (fun _ => 0), iE γ 6 (fun _ => 0), iE γ 18 (fun _ => 0), iE γ 18 (c_fill (fun _ => 0) (-1001) 18)])) := by
  refine Cr_of [some (.ref b)] (by decide +kernel) (Nat.le_of_ble_eq_true rfl) rfl ?_
  intro p e s m args below meth c X
  refine v_q0 (fun Q0 hQ0 => ?_)
  refine v_le (reg_le h2 hb) ?_
  refine v_aload_n X rfl dX5_init_0 ?_
  refine v_objInit X oi_X5_3 (Nat.le_of_ble_eq_true rfl) (Nat.le_of_ble_eq_true rfl) rfl dX5_init_1 ?_
  refine v_aload_n X rfl dX5_init_4 ?_
  refine v_iconst' X kc_3 dX5_init_5 ?_
  refine v_putf X fp_X5_9 (reg_at h b _ 0 rfl) rfl rfl (Nat.le_of_ble_eq_true rfl) dX5_init_6 ?_
  refine v_eqh (reg_set h b _ 0 _ (Nat.le_of_ble_eq_true rfl)) ?_
  refine v_eqh (reg_c (L' := [.inr (5, [.int (nI 3), .int 0, .int 0, .int 0, .null, .null, .null, .null])]) rfl) ?_
  refine v_aload_n X rfl dX5_init_9 ?_
  refine v_iconst' X kc_m1 dX5_init_10 ?_
  refine v_putf X fp_X5_15 (reg_at h b _ 0 rfl) rfl rfl (Nat.le_of_ble_eq_true rfl) dX5_init_11 ?_
  refine v_eqh (reg_set h b _ 0 _ (Nat.le_of_ble_eq_true rfl)) ?_
  refine v_eqh (reg_c (L' := [.inr (5, [.int (nI 3), .int (-1), .int 0, .int 0, .null, .null, .null, .null])]) rfl) ?_
  refine v_aload_n X rfl dX5_init_14 ?_
  refine v_iconst' X kc_0 dX5_init_15 ?_
  refine v_putf X fp_X5_18 (reg_at h b _ 0 rfl) rfl rfl (Nat.le_of_ble_eq_true rfl) dX5_init_16 ?_
  refine v_eqh (reg_set h b _ 0 _ (Nat.le_of_ble_eq_true rfl)) ?_
  refine v_eqh (reg_c (L' := [.inr (5, [.int (nI 3), .int (-1), .int (nI 0), .int 0, .null, .null, .null, .null])]) rfl) ?_
  refine v_aload_n X rfl dX5_init_19 ?_
  refine v_iconst' X kc_0 dX5_init_20 ?_
  refine v_putf X fp_X5_21 (reg_at h b _ 0 rfl) rfl rfl (Nat.le_of_ble_eq_true rfl) dX5_init_21 ?_
  refine v_eqh (reg_set h b _ 0 _ (Nat.le_of_ble_eq_true rfl)) ?_
  refine v_eqh (reg_c (L' := [.inr (5, [.int (nI 3), .int (-1), .int (nI 0), .int (nI 0), .null, .null, .null, .null])]) rfl) ?_
  refine v_aload_n X rfl dX5_init_24 ?_
  refine v_bipush' X kb_6 dX5_init_25 ?_
  refine v_newarr X 6 rfl (by decide) ac_int (Nat.le_of_ble_eq_true rfl) (Nat.le_of_ble_eq_true rfl) dX5_init_27 ?_
  refine v_eqh (reg_new _ _ _ _) ?_
  refine v_eqh (reg_c (L' := [.inr (5, [.int (nI 3), .int (-1), .int (nI 0), .int (nI 0), .null, .null, .null, .null]), iE γ 6 (fun _ => 0)]) rfl) ?_
  refine v_putF X fp_X5_24 rfl (reg_at h b _ 0 rfl) rfl rfl (Nat.le_of_ble_eq_true rfl) dX5_init_29 ?_
  refine v_eqh (reg_set h b _ 0 _ (Nat.le_of_ble_eq_true rfl)) ?_
  refine v_eqh (reg_c (L' := [.inr (5, [.int (nI 3), .int (-1), .int (nI 0), .int (nI 0), .ref (b + 1), .null, .null, .null]), iE γ 6 (fun _ => 0)]) rfl) ?_
  refine v_aload_n X rfl dX5_init_32 ?_
  refine v_bipush' X kb_6 dX5_init_33 ?_
  refine v_newarr X 6 rfl (by decide) ac_int (Nat.le_of_ble_eq_true rfl) (Nat.le_of_ble_eq_true rfl) dX5_init_35 ?_
  refine v_eqh (reg_new _ _ _ _) ?_
  refine v_eqh (reg_c (L' := [.inr (5, [.int (nI 3), .int (-1), .int (nI 0), .int (nI 0), .ref (b + 1), .null, .null, .null]), iE γ 6 (fun _ => 0), iE γ 6 (fun _ => 0)]) rfl) ?_
  refine v_putF X fp_X5_28 rfl (reg_at h b _ 0 rfl) rfl rfl (Nat.le_of_ble_eq_true rfl) dX5_init_37 ?_
  refine v_eqh (reg_set h b _ 0 _ (Nat.le_of_ble_eq_true rfl)) ?_
  refine v_eqh (reg_c (L' := [.inr (5, [.int (nI 3), .int (-1), .int (nI 0), .int (nI 0), .ref (b + 1), .ref (b + 2), .null, .null]), iE γ 6 (fun _ => 0), iE γ 6 (fun _ => 0)]) rfl) ?_
  refine v_aload_n X rfl dX5_init_40 ?_
  refine v_bipush' X kb_18 dX5_init_41 ?_
  refine v_newarr X 18 rfl (by decide) ac_int (Nat.le_of_ble_eq_true rfl) (Nat.le_of_ble_eq_true rfl) dX5_init_43 ?_
  refine v_eqh (reg_new _ _ _ _) ?_
  refine v_eqh (reg_c (L' := [.inr (5, [.int (nI 3), .int (-1), .int (nI 0), .int (nI 0), .ref (b + 1), .ref (b + 2), .null, .null]), iE γ 6 (fun _ => 0), iE γ 6 (fun _ => 0), iE γ 18 (fun _ => 0)]) rfl) ?_
  refine v_putF X fp_X5_31 rfl (reg_at h b _ 0 rfl) rfl rfl (Nat.le_of_ble_eq_true rfl) dX5_init_45 ?_
  refine v_eqh (reg_set h b _ 0 _ (Nat.le_of_ble_eq_true rfl)) ?_
  refine v_eqh (reg_c (L' := [.inr (5, [.int (nI 3), .int (-1), .int (nI 0), .int (nI 0), .ref (b + 1), .ref (b + 2), .ref (b + 3), .null]), iE γ 6 (fun _ => 0), iE γ 6 (fun _ => 0), iE γ 18 (fun _ => 0)]) rfl) ?_
  refine v_aload_n X rfl dX5_init_48 ?_
  refine v_bipush' X kb_18 dX5_init_49 ?_
  refine v_newarr X 18 rfl (by decide) ac_int (Nat.le_of_ble_eq_true rfl) (Nat.le_of_ble_eq_true rfl) dX5_init_51 ?_
  refine v_eqh (reg_new _ _ _ _) ?_
  refine v_eqh (reg_c (L' := [.inr (5, [.int (nI 3), .int (-1), .int (nI 0), .int (nI 0), .ref (b + 1), .ref (b + 2), .ref (b + 3), .null]), iE γ 6 (fun _ => 0), iE γ 6 (fun _ => 0), iE γ 18 (fun _ => 0), iE γ 18 (fun _ => 0)]) rfl) ?_
  refine v_putF X fp_X5_34 rfl (reg_at h b _ 0 rfl) rfl rfl (Nat.le_of_ble_eq_true rfl) dX5_init_53 ?_
  refine v_eqh (reg_set h b _ 0 _ (Nat.le_of_ble_eq_true rfl)) ?_
  refine v_eqh (reg_c (L' := [.inr (5, [.int (nI 3), .int (-1), .int (nI 0), .int (nI 0), .ref (b + 1), .ref (b + 2), .ref (b + 3), .ref (b + 4)]), iE γ 6 (fun _ => 0), iE γ 6 (fun _ => 0), iE γ 18 (fun _ => 0), iE γ 18 (fun _ => 0)]) rfl) ?_
  refine v_aload_n X rfl dX5_init_56 ?_
  refine v_getf X (v := (.ref (b + 4))) fd_X5_34 (reg_at h b _ 0 rfl) rfl dX5_init_57 ?_
  refine v_sipush' X ks_m1001 dX5_init_60 ?_
  refine v_callS X ms_X5_37 (c_J7_fill_53178 l γ _ (b + 4) 18 (fun _ => 0) (-1001) (by decide) (reg_at h b _ 4 rfl)) rfl ⟨Nat.le_of_ble_eq_true rfl, Nat.le_of_ble_eq_true rfl, Nat.le_of_ble_eq_true rfl, Nat.le_of_ble_eq_true rfl⟩ (Nat.le_of_ble_eq_true rfl) rfl dX5_init_63 rfl (det_v ?_)
  refine v_eqh (reg_set h b _ 4 _ (Nat.le_of_ble_eq_true rfl)) ?_
  refine v_eqh (reg_c (L' := [.inr (5, [.int (nI 3), .int (-1), .int (nI 0), .int (nI 0), .ref (b + 1), .ref (b + 2), .ref (b + 3), .ref (b + 4)]), iE γ 6 (fun _ => 0), iE γ 6 (fun _ => 0), iE γ 18 (fun _ => 0), iE γ 18 (c_fill (fun _ => 0) (-1001) 18)]) rfl) ?_
  subst hQ0
  exact v_vret X rfl (Nat.le_of_ble_eq_true rfl) (Nat.le_of_ble_eq_true rfl) dX5_init_66 ⟨rfl, rfl⟩
set_option maxHeartbeats 4000000 in
set_option maxRecDepth 100000 in
theorem c_X2_init (l : Launch) (γ : Gm) (h : HP) (b : Nat) (h2 : h.2 = b + 1) (hb : h.1 b = some (.inr (2, [.null, .null, .null, .null, .int 0, .int 0, .int 0, .int 0, .int 0]))) : Cr l γ yX2_init cX2_init 1 none 4 84 9 185 [.ref b] (h) (Det none (reg h b [.inr (2, [.ref (b + 1), .ref (b + 2), .ref (b + 4), .ref (b + 9), .int (nI 0), .int (nI 0), .int (nI 0), .int (nI 0), .int (nI 0)]), iE γ 5 (upd (upd (upd (upd (upd (fun _ => 0) 0 (nI 4)) 1 (nI 12)) 2 (nI 1)) 3 (nI 100)) 4 (nI 8)), .inr (4, [.ref (b + 3)]), iE γ 120 (fun _ => 0), .inr (5, [.int (nI 3), .int (-1), .int (nI 0), .int (nI 0), .ref (b + 5), .ref (b + 6), .ref (b + 7), .ref (b + 8)]), iE γ 6 (fun _ => 0), iE γ 6 (fun _ => 0), iE γ 18 (fun _ => 0), iE γ 18 (c_fill (fun _ => 0) (-1001) 18), .inr (0, [.int (nI 0), .ref (γ.2.2.2 2), .int 0])])) := by
  refine Cr_of [some (.ref b)] (by decide +kernel) (Nat.le_of_ble_eq_true rfl) rfl ?_
  intro p e s m args below meth c X
  refine v_q0 (fun Q0 hQ0 => ?_)
  refine v_le (reg_le h2 hb) ?_
  refine v_aload_n X rfl dX2_init_0 ?_
  refine v_objInit X oi_X2_3 (Nat.le_of_ble_eq_true rfl) (Nat.le_of_ble_eq_true rfl) rfl dX2_init_1 ?_
  refine v_aload_n X rfl dX2_init_4 ?_
  refine v_iconst' X kc_5 dX2_init_5 ?_
  refine v_newarr X 5 rfl (by decide) ac_int (Nat.le_of_ble_eq_true rfl) (Nat.le_of_ble_eq_true rfl) dX2_init_6 ?_
  refine v_eqh (reg_new _ _ _ _) ?_
  refine v_eqh (reg_c (L' := [.inr (2, [.null, .null, .null, .null, .int 0, .int 0, .int 0, .int 0, .int 0]), iE γ 5 (fun _ => 0)]) rfl) ?_
  refine v_dup X rfl dX2_init_8 ?_
  refine v_iconst' X kc_0 dX2_init_9 ?_
  refine v_iconst' X kc_4 dX2_init_10 ?_
  refine v_iast X (reg_at h b _ 1 rfl) 0 rfl (by decide) (by decide) dX2_init_11 ?_
  refine v_eqh (reg_set h b _ 1 _ (Nat.le_of_ble_eq_true rfl)) ?_
  refine v_eqh (reg_c (L' := [.inr (2, [.null, .null, .null, .null, .int 0, .int 0, .int 0, .int 0, .int 0]), iE γ 5 (upd (fun _ => 0) 0 (nI 4))]) rfl) ?_
  refine v_dup X rfl dX2_init_12 ?_
  refine v_iconst' X kc_1 dX2_init_13 ?_
  refine v_bipush' X kb_12 dX2_init_14 ?_
  refine v_iast X (reg_at h b _ 1 rfl) 1 rfl (by decide) (by decide) dX2_init_16 ?_
  refine v_eqh (reg_set h b _ 1 _ (Nat.le_of_ble_eq_true rfl)) ?_
  refine v_eqh (reg_c (L' := [.inr (2, [.null, .null, .null, .null, .int 0, .int 0, .int 0, .int 0, .int 0]), iE γ 5 (upd (upd (fun _ => 0) 0 (nI 4)) 1 (nI 12))]) rfl) ?_
  refine v_dup X rfl dX2_init_17 ?_
  refine v_iconst' X kc_2 dX2_init_18 ?_
  refine v_iconst' X kc_1 dX2_init_19 ?_
  refine v_iast X (reg_at h b _ 1 rfl) 2 rfl (by decide) (by decide) dX2_init_20 ?_
  refine v_eqh (reg_set h b _ 1 _ (Nat.le_of_ble_eq_true rfl)) ?_
  refine v_eqh (reg_c (L' := [.inr (2, [.null, .null, .null, .null, .int 0, .int 0, .int 0, .int 0, .int 0]), iE γ 5 (upd (upd (upd (fun _ => 0) 0 (nI 4)) 1 (nI 12)) 2 (nI 1))]) rfl) ?_
  refine v_dup X rfl dX2_init_21 ?_
  refine v_iconst' X kc_3 dX2_init_22 ?_
  refine v_bipush' X kb_100 dX2_init_23 ?_
  refine v_iast X (reg_at h b _ 1 rfl) 3 rfl (by decide) (by decide) dX2_init_25 ?_
  refine v_eqh (reg_set h b _ 1 _ (Nat.le_of_ble_eq_true rfl)) ?_
  refine v_eqh (reg_c (L' := [.inr (2, [.null, .null, .null, .null, .int 0, .int 0, .int 0, .int 0, .int 0]), iE γ 5 (upd (upd (upd (upd (fun _ => 0) 0 (nI 4)) 1 (nI 12)) 2 (nI 1)) 3 (nI 100))]) rfl) ?_
  refine v_dup X rfl dX2_init_26 ?_
  refine v_iconst' X kc_4 dX2_init_27 ?_
  refine v_bipush' X kb_8 dX2_init_28 ?_
  refine v_iast X (reg_at h b _ 1 rfl) 4 rfl (by decide) (by decide) dX2_init_30 ?_
  refine v_eqh (reg_set h b _ 1 _ (Nat.le_of_ble_eq_true rfl)) ?_
  refine v_eqh (reg_c (L' := [.inr (2, [.null, .null, .null, .null, .int 0, .int 0, .int 0, .int 0, .int 0]), iE γ 5 (upd (upd (upd (upd (upd (fun _ => 0) 0 (nI 4)) 1 (nI 12)) 2 (nI 1)) 3 (nI 100)) 4 (nI 8))]) rfl) ?_
  refine v_putF X fp_X2_9 rfl (reg_at h b _ 0 rfl) rfl rfl (Nat.le_of_ble_eq_true rfl) dX2_init_31 ?_
  refine v_eqh (reg_set h b _ 0 _ (Nat.le_of_ble_eq_true rfl)) ?_
  refine v_eqh (reg_c (L' := [.inr (2, [.ref (b + 1), .null, .null, .null, .int 0, .int 0, .int 0, .int 0, .int 0]), iE γ 5 (upd (upd (upd (upd (upd (fun _ => 0) 0 (nI 4)) 1 (nI 12)) 2 (nI 1)) 3 (nI 100)) 4 (nI 8))]) rfl) ?_
  refine v_aload_n X rfl dX2_init_34 ?_
  refine v_new X nd_X2_15 (Nat.le_of_ble_eq_true rfl) (Nat.le_of_ble_eq_true rfl) dX2_init_35 ?_
  refine v_eqh (reg_new _ _ _ _) ?_
  refine v_eqh (reg_c (L' := [.inr (2, [.ref (b + 1), .null, .null, .null, .int 0, .int 0, .int 0, .int 0, .int 0]), iE γ 5 (upd (upd (upd (upd (upd (fun _ => 0) 0 (nI 4)) 1 (nI 12)) 2 (nI 1)) 3 (nI 100)) 4 (nI 8)), .inr (4, [.null])]) rfl) ?_
  refine v_dup X rfl dX2_init_38 ?_
  refine v_callIN X min_X2_17 (c_X4_init l γ _ (b + 2) rfl (reg_at h b _ 2 rfl)) rfl ⟨Nat.le_of_ble_eq_true rfl, Nat.le_of_ble_eq_true rfl, Nat.le_of_ble_eq_true rfl, Nat.le_of_ble_eq_true rfl⟩ (Nat.le_of_ble_eq_true rfl) rfl dX2_init_39 rfl (det_v ?_)
  refine v_eqh (reg_reg h b [.inr (2, [.ref (b + 1), .null, .null, .null, .int 0, .int 0, .int 0, .int 0, .int 0]), iE γ 5 (upd (upd (upd (upd (upd (fun _ => 0) 0 (nI 4)) 1 (nI 12)) 2 (nI 1)) 3 (nI 100)) 4 (nI 8))] _ _) ?_
  refine v_eqh (reg_c (L' := [.inr (2, [.ref (b + 1), .null, .null, .null, .int 0, .int 0, .int 0, .int 0, .int 0]), iE γ 5 (upd (upd (upd (upd (upd (fun _ => 0) 0 (nI 4)) 1 (nI 12)) 2 (nI 1)) 3 (nI 100)) 4 (nI 8)), .inr (4, [.ref (b + 3)]), iE γ 120 (fun _ => 0)]) rfl) ?_
  refine v_putF X fp_X2_18 rfl (reg_at h b _ 0 rfl) rfl rfl (Nat.le_of_ble_eq_true rfl) dX2_init_42 ?_
  refine v_eqh (reg_set h b _ 0 _ (Nat.le_of_ble_eq_true rfl)) ?_
  refine v_eqh (reg_c (L' := [.inr (2, [.ref (b + 1), .ref (b + 2), .null, .null, .int 0, .int 0, .int 0, .int 0, .int 0]), iE γ 5 (upd (upd (upd (upd (upd (fun _ => 0) 0 (nI 4)) 1 (nI 12)) 2 (nI 1)) 3 (nI 100)) 4 (nI 8)), .inr (4, [.ref (b + 3)]), iE γ 120 (fun _ => 0)]) rfl) ?_
  refine v_aload_n X rfl dX2_init_45 ?_
  refine v_new X nd_X2_22 (Nat.le_of_ble_eq_true rfl) (Nat.le_of_ble_eq_true rfl) dX2_init_46 ?_
  refine v_eqh (reg_new _ _ _ _) ?_
  refine v_eqh (reg_c (L' := [.inr (2, [.ref (b + 1), .ref (b + 2), .null, .null, .int 0, .int 0, .int 0, .int 0, .int 0]), iE γ 5 (upd (upd (upd (upd (upd (fun _ => 0) 0 (nI 4)) 1 (nI 12)) 2 (nI 1)) 3 (nI 100)) 4 (nI 8)), .inr (4, [.ref (b + 3)]), iE γ 120 (fun _ => 0), .inr (5, [.int 0, .int 0, .int 0, .int 0, .null, .null, .null, .null])]) rfl) ?_
  refine v_dup X rfl dX2_init_49 ?_
  refine v_callI X mi_X2_24 (c_X5_init l γ _ (b + 4) rfl (reg_at h b _ 4 rfl)) rfl ⟨Nat.le_of_ble_eq_true rfl, Nat.le_of_ble_eq_true rfl, Nat.le_of_ble_eq_true rfl, Nat.le_of_ble_eq_true rfl⟩ (Nat.le_of_ble_eq_true rfl) rfl dX2_init_50 rfl (det_v ?_)
  refine v_eqh (reg_reg h b [.inr (2, [.ref (b + 1), .ref (b + 2), .null, .null, .int 0, .int 0, .int 0, .int 0, .int 0]), iE γ 5 (upd (upd (upd (upd (upd (fun _ => 0) 0 (nI 4)) 1 (nI 12)) 2 (nI 1)) 3 (nI 100)) 4 (nI 8)), .inr (4, [.ref (b + 3)]), iE γ 120 (fun _ => 0)] _ _) ?_
  refine v_eqh (reg_c (L' := [.inr (2, [.ref (b + 1), .ref (b + 2), .null, .null, .int 0, .int 0, .int 0, .int 0, .int 0]), iE γ 5 (upd (upd (upd (upd (upd (fun _ => 0) 0 (nI 4)) 1 (nI 12)) 2 (nI 1)) 3 (nI 100)) 4 (nI 8)), .inr (4, [.ref (b + 3)]), iE γ 120 (fun _ => 0), .inr (5, [.int (nI 3), .int (-1), .int (nI 0), .int (nI 0), .ref (b + 5), .ref (b + 6), .ref (b + 7), .ref (b + 8)]), iE γ 6 (fun _ => 0), iE γ 6 (fun _ => 0), iE γ 18 (fun _ => 0), iE γ 18 (c_fill (fun _ => 0) (-1001) 18)]) rfl) ?_
  refine v_putF X fp_X2_25 rfl (reg_at h b _ 0 rfl) rfl rfl (Nat.le_of_ble_eq_true rfl) dX2_init_53 ?_
  refine v_eqh (reg_set h b _ 0 _ (Nat.le_of_ble_eq_true rfl)) ?_
  refine v_eqh (reg_c (L' := [.inr (2, [.ref (b + 1), .ref (b + 2), .ref (b + 4), .null, .int 0, .int 0, .int 0, .int 0, .int 0]), iE γ 5 (upd (upd (upd (upd (upd (fun _ => 0) 0 (nI 4)) 1 (nI 12)) 2 (nI 1)) 3 (nI 100)) 4 (nI 8)), .inr (4, [.ref (b + 3)]), iE γ 120 (fun _ => 0), .inr (5, [.int (nI 3), .int (-1), .int (nI 0), .int (nI 0), .ref (b + 5), .ref (b + 6), .ref (b + 7), .ref (b + 8)]), iE γ 6 (fun _ => 0), iE γ 6 (fun _ => 0), iE γ 18 (fun _ => 0), iE γ 18 (c_fill (fun _ => 0) (-1001) 18)]) rfl) ?_
  refine v_aload_n X rfl dX2_init_56 ?_
  refine v_new X nd_X2_29 (Nat.le_of_ble_eq_true rfl) (Nat.le_of_ble_eq_true rfl) dX2_init_57 ?_
  refine v_eqh (reg_new _ _ _ _) ?_
  refine v_eqh (reg_c (L' := [.inr (2, [.ref (b + 1), .ref (b + 2), .ref (b + 4), .null, .int 0, .int 0, .int 0, .int 0, .int 0]), iE γ 5 (upd (upd (upd (upd (upd (fun _ => 0) 0 (nI 4)) 1 (nI 12)) 2 (nI 1)) 3 (nI 100)) 4 (nI 8)), .inr (4, [.ref (b + 3)]), iE γ 120 (fun _ => 0), .inr (5, [.int (nI 3), .int (-1), .int (nI 0), .int (nI 0), .ref (b + 5), .ref (b + 6), .ref (b + 7), .ref (b + 8)]), iE γ 6 (fun _ => 0), iE γ 6 (fun _ => 0), iE γ 18 (fun _ => 0), iE γ 18 (c_fill (fun _ => 0) (-1001) 18), .inr (0, [.int 0, .null, .int 0])]) rfl) ?_
  refine v_dup X rfl dX2_init_60 ?_
  refine v_callI X mi_X2_31 (c_Jx4a65c_init_da8c8 l γ _ (b + 9) (reg_at h b _ 9 rfl)) rfl ⟨Nat.le_of_ble_eq_true rfl, Nat.le_of_ble_eq_true rfl, Nat.le_of_ble_eq_true rfl, Nat.le_of_ble_eq_true rfl⟩ (Nat.le_of_ble_eq_true rfl) rfl dX2_init_61 rfl (det_v ?_)
  refine v_eqh (reg_set h b _ 9 _ (Nat.le_of_ble_eq_true rfl)) ?_
  refine v_eqh (reg_c (L' := [.inr (2, [.ref (b + 1), .ref (b + 2), .ref (b + 4), .null, .int 0, .int 0, .int 0, .int 0, .int 0]), iE γ 5 (upd (upd (upd (upd (upd (fun _ => 0) 0 (nI 4)) 1 (nI 12)) 2 (nI 1)) 3 (nI 100)) 4 (nI 8)), .inr (4, [.ref (b + 3)]), iE γ 120 (fun _ => 0), .inr (5, [.int (nI 3), .int (-1), .int (nI 0), .int (nI 0), .ref (b + 5), .ref (b + 6), .ref (b + 7), .ref (b + 8)]), iE γ 6 (fun _ => 0), iE γ 6 (fun _ => 0), iE γ 18 (fun _ => 0), iE γ 18 (c_fill (fun _ => 0) (-1001) 18), .inr (0, [.int (nI 0), .ref (γ.2.2.2 2), .int 0])]) rfl) ?_
  refine v_putF X fp_X2_32 rfl (reg_at h b _ 0 rfl) rfl rfl (Nat.le_of_ble_eq_true rfl) dX2_init_64 ?_
  refine v_eqh (reg_set h b _ 0 _ (Nat.le_of_ble_eq_true rfl)) ?_
  refine v_eqh (reg_c (L' := [.inr (2, [.ref (b + 1), .ref (b + 2), .ref (b + 4), .ref (b + 9), .int 0, .int 0, .int 0, .int 0, .int 0]), iE γ 5 (upd (upd (upd (upd (upd (fun _ => 0) 0 (nI 4)) 1 (nI 12)) 2 (nI 1)) 3 (nI 100)) 4 (nI 8)), .inr (4, [.ref (b + 3)]), iE γ 120 (fun _ => 0), .inr (5, [.int (nI 3), .int (-1), .int (nI 0), .int (nI 0), .ref (b + 5), .ref (b + 6), .ref (b + 7), .ref (b + 8)]), iE γ 6 (fun _ => 0), iE γ 6 (fun _ => 0), iE γ 18 (fun _ => 0), iE γ 18 (c_fill (fun _ => 0) (-1001) 18), .inr (0, [.int (nI 0), .ref (γ.2.2.2 2), .int 0])]) rfl) ?_
  refine v_aload_n X rfl dX2_init_67 ?_
  refine v_iconst' X kc_0 dX2_init_68 ?_
  refine v_putf X fp_X2_36 (reg_at h b _ 0 rfl) rfl rfl (Nat.le_of_ble_eq_true rfl) dX2_init_69 ?_
  refine v_eqh (reg_set h b _ 0 _ (Nat.le_of_ble_eq_true rfl)) ?_
  refine v_eqh (reg_c (L' := [.inr (2, [.ref (b + 1), .ref (b + 2), .ref (b + 4), .ref (b + 9), .int (nI 0), .int 0, .int 0, .int 0, .int 0]), iE γ 5 (upd (upd (upd (upd (upd (fun _ => 0) 0 (nI 4)) 1 (nI 12)) 2 (nI 1)) 3 (nI 100)) 4 (nI 8)), .inr (4, [.ref (b + 3)]), iE γ 120 (fun _ => 0), .inr (5, [.int (nI 3), .int (-1), .int (nI 0), .int (nI 0), .ref (b + 5), .ref (b + 6), .ref (b + 7), .ref (b + 8)]), iE γ 6 (fun _ => 0), iE γ 6 (fun _ => 0), iE γ 18 (fun _ => 0), iE γ 18 (c_fill (fun _ => 0) (-1001) 18), .inr (0, [.int (nI 0), .ref (γ.2.2.2 2), .int 0])]) rfl) ?_
  refine v_aload_n X rfl dX2_init_72 ?_
  refine v_iconst' X kc_0 dX2_init_73 ?_
  refine v_putf X fp_X2_40 (reg_at h b _ 0 rfl) rfl rfl (Nat.le_of_ble_eq_true rfl) dX2_init_74 ?_
  refine v_eqh (reg_set h b _ 0 _ (Nat.le_of_ble_eq_true rfl)) ?_
  refine v_eqh (reg_c (L' := [.inr (2, [.ref (b + 1), .ref (b + 2), .ref (b + 4), .ref (b + 9), .int (nI 0), .int (nI 0), .int 0, .int 0, .int 0]), iE γ 5 (upd (upd (upd (upd (upd (fun _ => 0) 0 (nI 4)) 1 (nI 12)) 2 (nI 1)) 3 (nI 100)) 4 (nI 8)), .inr (4, [.ref (b + 3)]), iE γ 120 (fun _ => 0), .inr (5, [.int (nI 3), .int (-1), .int (nI 0), .int (nI 0), .ref (b + 5), .ref (b + 6), .ref (b + 7), .ref (b + 8)]), iE γ 6 (fun _ => 0), iE γ 6 (fun _ => 0), iE γ 18 (fun _ => 0), iE γ 18 (c_fill (fun _ => 0) (-1001) 18), .inr (0, [.int (nI 0), .ref (γ.2.2.2 2), .int 0])]) rfl) ?_
  refine v_aload_n X rfl dX2_init_77 ?_
  refine v_iconst' X kc_0 dX2_init_78 ?_
  refine v_putf X fp_X2_43 (reg_at h b _ 0 rfl) rfl rfl (Nat.le_of_ble_eq_true rfl) dX2_init_79 ?_
  refine v_eqh (reg_set h b _ 0 _ (Nat.le_of_ble_eq_true rfl)) ?_
  refine v_eqh (reg_c (L' := [.inr (2, [.ref (b + 1), .ref (b + 2), .ref (b + 4), .ref (b + 9), .int (nI 0), .int (nI 0), .int (nI 0), .int 0, .int 0]), iE γ 5 (upd (upd (upd (upd (upd (fun _ => 0) 0 (nI 4)) 1 (nI 12)) 2 (nI 1)) 3 (nI 100)) 4 (nI 8)), .inr (4, [.ref (b + 3)]), iE γ 120 (fun _ => 0), .inr (5, [.int (nI 3), .int (-1), .int (nI 0), .int (nI 0), .ref (b + 5), .ref (b + 6), .ref (b + 7), .ref (b + 8)]), iE γ 6 (fun _ => 0), iE γ 6 (fun _ => 0), iE γ 18 (fun _ => 0), iE γ 18 (c_fill (fun _ => 0) (-1001) 18), .inr (0, [.int (nI 0), .ref (γ.2.2.2 2), .int 0])]) rfl) ?_
  refine v_aload_n X rfl dX2_init_82 ?_
  refine v_iconst' X kc_0 dX2_init_83 ?_
  refine v_putf X fp_X2_46 (reg_at h b _ 0 rfl) rfl rfl (Nat.le_of_ble_eq_true rfl) dX2_init_84 ?_
  refine v_eqh (reg_set h b _ 0 _ (Nat.le_of_ble_eq_true rfl)) ?_
  refine v_eqh (reg_c (L' := [.inr (2, [.ref (b + 1), .ref (b + 2), .ref (b + 4), .ref (b + 9), .int (nI 0), .int (nI 0), .int (nI 0), .int (nI 0), .int 0]), iE γ 5 (upd (upd (upd (upd (upd (fun _ => 0) 0 (nI 4)) 1 (nI 12)) 2 (nI 1)) 3 (nI 100)) 4 (nI 8)), .inr (4, [.ref (b + 3)]), iE γ 120 (fun _ => 0), .inr (5, [.int (nI 3), .int (-1), .int (nI 0), .int (nI 0), .ref (b + 5), .ref (b + 6), .ref (b + 7), .ref (b + 8)]), iE γ 6 (fun _ => 0), iE γ 6 (fun _ => 0), iE γ 18 (fun _ => 0), iE γ 18 (c_fill (fun _ => 0) (-1001) 18), .inr (0, [.int (nI 0), .ref (γ.2.2.2 2), .int 0])]) rfl) ?_
  refine v_aload_n X rfl dX2_init_87 ?_
  refine v_iconst' X kc_0 dX2_init_88 ?_
  refine v_putf X fp_X2_49 (reg_at h b _ 0 rfl) rfl rfl (Nat.le_of_ble_eq_true rfl) dX2_init_89 ?_
  refine v_eqh (reg_set h b _ 0 _ (Nat.le_of_ble_eq_true rfl)) ?_
  refine v_eqh (reg_c (L' := [.inr (2, [.ref (b + 1), .ref (b + 2), .ref (b + 4), .ref (b + 9), .int (nI 0), .int (nI 0), .int (nI 0), .int (nI 0), .int (nI 0)]), iE γ 5 (upd (upd (upd (upd (upd (fun _ => 0) 0 (nI 4)) 1 (nI 12)) 2 (nI 1)) 3 (nI 100)) 4 (nI 8)), .inr (4, [.ref (b + 3)]), iE γ 120 (fun _ => 0), .inr (5, [.int (nI 3), .int (-1), .int (nI 0), .int (nI 0), .ref (b + 5), .ref (b + 6), .ref (b + 7), .ref (b + 8)]), iE γ 6 (fun _ => 0), iE γ 6 (fun _ => 0), iE γ 18 (fun _ => 0), iE γ 18 (c_fill (fun _ => 0) (-1001) 18), .inr (0, [.int (nI 0), .ref (γ.2.2.2 2), .int 0])]) rfl) ?_
  subst hQ0
  exact v_vret X rfl (Nat.le_of_ble_eq_true rfl) (Nat.le_of_ble_eq_true rfl) dX2_init_92 ⟨rfl, rfl⟩
set_option maxHeartbeats 4000000 in
set_option maxRecDepth 100000 in
theorem c_X3_init (l : Launch) (γ : Gm) (h : HP) (b : Nat) (h2 : h.2 = b + 1) (hb : h.1 b = some (.inr (3, [.null, .int 0, .null, .int 0, .int 0]))) : Cr l γ yX3_init cX3_init 1 none 4 84 2 63 [.ref b] (h) (Det none (reg h b [.inr (3, [.ref (b + 1), .int (nI 0), .ref (b + 2), .int (-1001), .int (nI 0)]), iE γ 60 (fun _ => 0), .inr (0, [.int (nI 0), .ref (γ.2.2.2 2), .int 0])])) := by
  refine Cr_of [some (.ref b)] (by decide +kernel) (Nat.le_of_ble_eq_true rfl) rfl ?_
  intro p e s m args below meth c X
  refine v_q0 (fun Q0 hQ0 => ?_)
  refine v_le (reg_le h2 hb) ?_
  refine v_aload_n X rfl dX3_init_0 ?_
  refine v_objInit X oi_X3_3 (Nat.le_of_ble_eq_true rfl) (Nat.le_of_ble_eq_true rfl) rfl dX3_init_1 ?_
  refine v_aload_n X rfl dX3_init_4 ?_
  refine v_bipush' X kb_60 dX3_init_5 ?_
  refine v_newarr X 60 rfl (by decide) ac_int (Nat.le_of_ble_eq_true rfl) (Nat.le_of_ble_eq_true rfl) dX3_init_7 ?_
  refine v_eqh (reg_new _ _ _ _) ?_
  refine v_eqh (reg_c (L' := [.inr (3, [.null, .int 0, .null, .int 0, .int 0]), iE γ 60 (fun _ => 0)]) rfl) ?_
  refine v_putF X fp_X3_9 rfl (reg_at h b _ 0 rfl) rfl rfl (Nat.le_of_ble_eq_true rfl) dX3_init_9 ?_
  refine v_eqh (reg_set h b _ 0 _ (Nat.le_of_ble_eq_true rfl)) ?_
  refine v_eqh (reg_c (L' := [.inr (3, [.ref (b + 1), .int 0, .null, .int 0, .int 0]), iE γ 60 (fun _ => 0)]) rfl) ?_
  refine v_aload_n X rfl dX3_init_12 ?_
  refine v_iconst' X kc_0 dX3_init_13 ?_
  refine v_putf X fp_X3_15 (reg_at h b _ 0 rfl) rfl rfl (Nat.le_of_ble_eq_true rfl) dX3_init_14 ?_
  refine v_eqh (reg_set h b _ 0 _ (Nat.le_of_ble_eq_true rfl)) ?_
  refine v_eqh (reg_c (L' := [.inr (3, [.ref (b + 1), .int (nI 0), .null, .int 0, .int 0]), iE γ 60 (fun _ => 0)]) rfl) ?_
  refine v_aload_n X rfl dX3_init_17 ?_
  refine v_new X nd_X3_19 (Nat.le_of_ble_eq_true rfl) (Nat.le_of_ble_eq_true rfl) dX3_init_18 ?_
  refine v_eqh (reg_new _ _ _ _) ?_
  refine v_eqh (reg_c (L' := [.inr (3, [.ref (b + 1), .int (nI 0), .null, .int 0, .int 0]), iE γ 60 (fun _ => 0), .inr (0, [.int 0, .null, .int 0])]) rfl) ?_
  refine v_dup X rfl dX3_init_21 ?_
  refine v_callI X mi_X3_21 (c_Jx4a65c_init_da8c8 l γ _ (b + 2) (reg_at h b _ 2 rfl)) rfl ⟨Nat.le_of_ble_eq_true rfl, Nat.le_of_ble_eq_true rfl, Nat.le_of_ble_eq_true rfl, Nat.le_of_ble_eq_true rfl⟩ (Nat.le_of_ble_eq_true rfl) rfl dX3_init_22 rfl (det_v ?_)
  refine v_eqh (reg_set h b _ 2 _ (Nat.le_of_ble_eq_true rfl)) ?_
  refine v_eqh (reg_c (L' := [.inr (3, [.ref (b + 1), .int (nI 0), .null, .int 0, .int 0]), iE γ 60 (fun _ => 0), .inr (0, [.int (nI 0), .ref (γ.2.2.2 2), .int 0])]) rfl) ?_
  refine v_putF X fp_X3_22 rfl (reg_at h b _ 0 rfl) rfl rfl (Nat.le_of_ble_eq_true rfl) dX3_init_25 ?_
  refine v_eqh (reg_set h b _ 0 _ (Nat.le_of_ble_eq_true rfl)) ?_
  refine v_eqh (reg_c (L' := [.inr (3, [.ref (b + 1), .int (nI 0), .ref (b + 2), .int 0, .int 0]), iE γ 60 (fun _ => 0), .inr (0, [.int (nI 0), .ref (γ.2.2.2 2), .int 0])]) rfl) ?_
  refine v_aload_n X rfl dX3_init_28 ?_
  refine v_sipush' X ks_m1001 dX3_init_29 ?_
  refine v_putf X fp_X3_26 (reg_at h b _ 0 rfl) rfl rfl (Nat.le_of_ble_eq_true rfl) dX3_init_32 ?_
  refine v_eqh (reg_set h b _ 0 _ (Nat.le_of_ble_eq_true rfl)) ?_
  refine v_eqh (reg_c (L' := [.inr (3, [.ref (b + 1), .int (nI 0), .ref (b + 2), .int (-1001), .int 0]), iE γ 60 (fun _ => 0), .inr (0, [.int (nI 0), .ref (γ.2.2.2 2), .int 0])]) rfl) ?_
  refine v_aload_n X rfl dX3_init_35 ?_
  refine v_iconst' X kc_0 dX3_init_36 ?_
  refine v_putf X fp_X3_29 (reg_at h b _ 0 rfl) rfl rfl (Nat.le_of_ble_eq_true rfl) dX3_init_37 ?_
  refine v_eqh (reg_set h b _ 0 _ (Nat.le_of_ble_eq_true rfl)) ?_
  refine v_eqh (reg_c (L' := [.inr (3, [.ref (b + 1), .int (nI 0), .ref (b + 2), .int (-1001), .int (nI 0)]), iE γ 60 (fun _ => 0), .inr (0, [.int (nI 0), .ref (γ.2.2.2 2), .int 0])]) rfl) ?_
  subst hQ0
  exact v_vret X rfl (Nat.le_of_ble_eq_true rfl) (Nat.le_of_ble_eq_true rfl) dX3_init_40 ⟨rfl, rfl⟩
