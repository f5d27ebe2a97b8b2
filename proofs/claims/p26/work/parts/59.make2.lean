/-! the history, the class's object, the reference's -/
theorem v_rE {p : Program} {l : Launch} {e : Env} {R : Room} {s : State} {m : MethodId} {args : Array Value} {below : List Frame} {meth : Method} {c : Code} {γ : Gm} {Q : State → Prop} {h : HP} {k j pc : Nat} {L : List (Option Value)} {st : List Value} {a t n : Nat} {f g : Nat → Option Nat} (ha : h.1 a = some (rE γ t n f)) (hfg : ∀ i, i < n → f i = g i) (kk : V p l e R s m args below meth c γ Q (hset h a (rE γ t n g)) k j pc L st) : V p l e R s m args below meth c γ Q h k j pc L st := fun H locs ls x y z => kk H locs ls ⟨x.1, x.2.1, fun b y hy => by
  by_cases hb : b = a
  · subst hb
    rw [hset_at] at hy
    cases hy
    obtain ⟨h1, h2⟩ := x.2.2 _ _ ha
    refine ⟨?_, h2⟩
    have h1 : H[b]? = some (arrV (γ.2.2.1 t) n (fun j => va_rf (f j))) := h1
    show H[b]? = some (arrV (γ.2.2.1 t) n (fun j => va_rf (g j)))
    rw [h1]
    have e9 : (fun j : Fin n => va_rf (f j.val)) = (fun j : Fin n => va_rf (g j.val)) := funext fun j => by rw [hfg j.val j.2]
    unfold arrV
    rw [e9]
  · rw [hset_off _ _ hb] at hy
    exact x.2.2 b y hy⟩ y z
def stB (γ : Gm) (b : Nat) : List va_E := [.inr (2, [.ref (b + 1), .ref (b + 2), .ref (b + 4), .ref (b + 9), .int (nI 0), .int (nI 0), .int (nI 0), .int (nI 0), .int (nI 0)]), iE γ 5 (upd (upd (upd (upd (upd (fun _ => 0) 0 (nI 4)) 1 (nI 12)) 2 (nI 1)) 3 (nI 100)) 4 (nI 8)), .inr (4, [.ref (b + 3)]), iE γ 120 (fun _ => 0), .inr (5, [.int (nI 3), .int (-1), .int (nI 0), .int (nI 0), .ref (b + 5), .ref (b + 6), .ref (b + 7), .ref (b + 8)]), iE γ 6 (fun _ => 0), iE γ 6 (fun _ => 0), iE γ 18 (fun _ => 0), iE γ 18 (c_fill (fun _ => 0) (-1001) 18), .inr (0, [.int (nI 0), .ref (γ.2.2.2 2), .int 0])]
def txB (γ : Gm) (b : Nat) : List va_E := [.inr (3, [.ref (b + 1), .int (nI 0), .ref (b + 2), .int (-1001), .int (nI 0)]), iE γ 60 (fun _ => 0), .inr (0, [.int (nI 0), .ref (γ.2.2.2 2), .int 0])]
theorem k_state (l : Launch) (γ : Gm) (h : HP) (b : Nat) (h2 : h.2 = b + 1) (hb : h.1 b = some (.inr (2, [.null, .null, .null, .null, .int 0, .int 0, .int 0, .int 0, .int 0]))) : Cr l γ yX2_init cX2_init 1 none 4 84 9 185 [.ref b] h (Det none (reg h b (stB γ b))) := c_X2_init l γ h b h2 hb
theorem k_text (l : Launch) (γ : Gm) (h : HP) (b : Nat) (h2 : h.2 = b + 1) (hb : h.1 b = some (.inr (3, [.null, .int 0, .null, .int 0, .int 0]))) : Cr l γ yX3_init cX3_init 1 none 4 84 2 63 [.ref b] h (Det none (reg h b (txB γ b))) := c_X3_init l γ h b h2 hb
theorem cx_AOs {p : Program} {s : State} {m : MethodId} {args : Array Value} {meth : Method} {c : Code} {γ : Gm} {y : MethodName} {cc : ByteArray} {nL : Nat} {ret : Option FieldType} (X : Cx p s m args meth c γ y cc nL ret) : va_AO "BallastTrain$State" s := (cx_env X).2.2.2.2.2.1
def hiB (γ : Gm) (b : Nat) : List va_E := ([.inr (1, [.ref (b + 1), .int (nI 0), .int (nI 0)]), rE γ 1 6 (fun q => some (b + (2 + 10 * q)))] ++ (stB γ (b + 2) ++ (stB γ (b + 12) ++ (stB γ (b + 22) ++ (stB γ (b + 32) ++ (stB γ (b + 42) ++ (stB γ (b + 52))))))))
set_option maxHeartbeats 4000000 in
set_option maxRecDepth 100000 in
theorem c_X0_init (l : Launch) (γ : Gm) (h : HP) (b : Nat) (h2 : h.2 = b + 1) (hb : h.1 b = some (.inr (1, [.null, .int 0, .int 0]))) : Cr l γ yX0_init cX0_init 2 none 5 104 61 1170 [.ref b] (h) (Det none (reg h b (hiB γ b))) := by
  refine Cr_of [some (.ref b), none] (by decide +kernel) (Nat.le_of_ble_eq_true rfl) rfl ?_
  intro p e s m args below meth c X
  refine v_q0 (fun Q0 hQ0 => ?_)
  refine v_le (reg_le h2 hb) ?_
  refine v_aload_n X rfl dX0_init_0 ?_
  refine v_objInit X oi_X0_3 (Nat.le_of_ble_eq_true rfl) (Nat.le_of_ble_eq_true rfl) rfl dX0_init_1 ?_
  refine v_aload_n X rfl dX0_init_4 ?_
  refine v_bipush' X kb_6 dX0_init_5 ?_
  refine v_anew (t0 := 1) X 6 rfl (by decide) cl_X0_9 (cx_AOs X) rfl (Nat.le_of_ble_eq_true rfl) (Nat.le_of_ble_eq_true rfl) dX0_init_7 ?_
  refine v_eqh (reg_new _ _ _ _) ?_
  refine v_eqh (reg_c (L' := ([.inr (1, [.null, .int 0, .int 0]), rE γ 1 6 (fun _ => none)])) rfl) ?_
  refine v_putF X fp_X0_11 rfl (reg_at h b _ 0 rfl) rfl rfl (Nat.le_of_ble_eq_true rfl) dX0_init_10 ?_
  refine v_eqh (reg_set h b _ 0 _ (Nat.le_of_ble_eq_true rfl)) ?_
  refine v_eqh (reg_c (L' := ([.inr (1, [.ref (b + 1), .int 0, .int 0]), rE γ 1 6 (fun _ => none)])) rfl) ?_
  refine v_aload_n X rfl dX0_init_13 ?_
  refine v_iconst' X kc_0 dX0_init_14 ?_
  refine v_putf X fp_X0_17 (reg_at h b _ 0 rfl) rfl rfl (Nat.le_of_ble_eq_true rfl) dX0_init_15 ?_
  refine v_eqh (reg_set h b _ 0 _ (Nat.le_of_ble_eq_true rfl)) ?_
  refine v_eqh (reg_c (L' := ([.inr (1, [.ref (b + 1), .int (nI 0), .int 0]), rE γ 1 6 (fun _ => none)])) rfl) ?_
  refine v_aload_n X rfl dX0_init_18 ?_
  refine v_iconst' X kc_0 dX0_init_19 ?_
  refine v_putf X fp_X0_21 (reg_at h b _ 0 rfl) rfl rfl (Nat.le_of_ble_eq_true rfl) dX0_init_20 ?_
  refine v_eqh (reg_set h b _ 0 _ (Nat.le_of_ble_eq_true rfl)) ?_
  refine v_eqh (reg_c (L' := ([.inr (1, [.ref (b + 1), .int (nI 0), .int (nI 0)]), rE γ 1 6 (fun _ => none)])) rfl) ?_
  refine v_iconst' X kc_0 dX0_init_23 ?_
  refine v_istore_n X (Nat.le_of_ble_eq_true rfl) rfl dX0_init_24 ?_
  refine v_iload_n X rfl dX0_init_25 ?_
  refine v_aload_n X rfl dX0_init_26 ?_
  refine v_getf X (v := (.ref (b + 1))) fd_X0_11 (reg_at h b _ 0 rfl) rfl dX0_init_27 ?_
  refine v_alen (t0 := 1) X (reg_at h b _ 1 rfl) rfl dX0_init_30 ?_
  change V p l e _ s m args below meth c γ Q0 _ _ _ _ _ (.int (nI 6) :: _)
  refine v_icmp_ge_f (tgt := 53) X dX0_init_31 (by decide) (by decide) ?_
  refine v_aload_n X rfl dX0_init_34 ?_
  refine v_getf X (v := (.ref (b + 1))) fd_X0_11 (reg_at h b _ 0 rfl) rfl dX0_init_35 ?_
  refine v_iload_n X rfl dX0_init_38 ?_
  refine v_new X nd_X0_9 (Nat.le_of_ble_eq_true rfl) (Nat.le_of_ble_eq_true rfl) dX0_init_39 ?_
  refine v_eqh (reg_new _ _ _ _) ?_
  refine v_eqh (reg_c (L' := ([.inr (1, [.ref (b + 1), .int (nI 0), .int (nI 0)]), rE γ 1 6 (fun _ => none)] ++ ([.inr (2, [.null, .null, .null, .null, .int 0, .int 0, .int 0, .int 0, .int 0])]))) rfl) ?_
  refine v_eqh (reg_c (L' := ([.inr (1, [.ref (b + 1), .int (nI 0), .int (nI 0)]), rE γ 1 6 (fun _ => none)]) ++ [.inr (2, [.null, .null, .null, .null, .int 0, .int 0, .int 0, .int 0, .int 0])]) rfl) ?_
  refine v_dup X rfl dX0_init_42 ?_
  refine v_callIN X min_X0_24 (k_state l γ _ (b + 2) rfl (reg_at h b _ 2 rfl)) rfl ⟨Nat.le_of_ble_eq_true rfl, Nat.le_of_ble_eq_true rfl, Nat.le_of_ble_eq_true rfl, Nat.le_of_ble_eq_true rfl⟩ (Nat.le_of_ble_eq_true rfl) rfl dX0_init_43 rfl (det_v ?_)
  refine v_eqh (reg_reg h b ([.inr (1, [.ref (b + 1), .int (nI 0), .int (nI 0)]), rE γ 1 6 (fun _ => none)]) [.inr (2, [.null, .null, .null, .null, .int 0, .int 0, .int 0, .int 0, .int 0])] _) ?_
  refine v_eqh (reg_c (L' := ([.inr (1, [.ref (b + 1), .int (nI 0), .int (nI 0)]), rE γ 1 6 (fun _ => none)] ++ (stB γ (b + 2)))) rfl) ?_
  refine v_aast (t0 := 1) (ci := 2) (r := (RX2, TX2, 9)) (v := b + 2) X (reg_at h b _ 1 rfl) rfl (reg_at h b _ 2 rfl) rfl (Or.inl rfl) 0 rfl (by decide) (by decide) dX0_init_46 ?_
  refine v_eqh (reg_set h b _ 1 _ (Nat.le_of_ble_eq_true rfl)) ?_
  refine v_eqh (reg_c (L' := ([.inr (1, [.ref (b + 1), .int (nI 0), .int (nI 0)]), rE γ 1 6 (va_up (fun _ => none) 0 (some (b + 2)))] ++ (stB γ (b + 2)))) rfl) ?_
  refine v_iinc' X rfl rfl (nI_inc _) dX0_init_47 ?_
  refine v_goto (tgt := 25) X dX0_init_50 (by decide) ?_
  refine v_iload_n X rfl dX0_init_25 ?_
  refine v_aload_n X rfl dX0_init_26 ?_
  refine v_getf X (v := (.ref (b + 1))) fd_X0_11 (reg_at h b _ 0 rfl) rfl dX0_init_27 ?_
  refine v_alen (t0 := 1) X (reg_at h b _ 1 rfl) rfl dX0_init_30 ?_
  change V p l e _ s m args below meth c γ Q0 _ _ _ _ _ (.int (nI 6) :: _)
  refine v_icmp_ge_f (tgt := 53) X dX0_init_31 (by decide) (by decide) ?_
  refine v_aload_n X rfl dX0_init_34 ?_
  refine v_getf X (v := (.ref (b + 1))) fd_X0_11 (reg_at h b _ 0 rfl) rfl dX0_init_35 ?_
  refine v_iload_n X rfl dX0_init_38 ?_
  refine v_new X nd_X0_9 (Nat.le_of_ble_eq_true rfl) (Nat.le_of_ble_eq_true rfl) dX0_init_39 ?_
  refine v_eqh (reg_new _ _ _ _) ?_
  refine v_eqh (reg_c (L' := ([.inr (1, [.ref (b + 1), .int (nI 0), .int (nI 0)]), rE γ 1 6 (va_up (fun _ => none) 0 (some (b + 2)))] ++ (stB γ (b + 2) ++ ([.inr (2, [.null, .null, .null, .null, .int 0, .int 0, .int 0, .int 0, .int 0])])))) rfl) ?_
  refine v_eqh (reg_c (L' := ([.inr (1, [.ref (b + 1), .int (nI 0), .int (nI 0)]), rE γ 1 6 (va_up (fun _ => none) 0 (some (b + 2)))] ++ (stB γ (b + 2))) ++ [.inr (2, [.null, .null, .null, .null, .int 0, .int 0, .int 0, .int 0, .int 0])]) rfl) ?_
  refine v_dup X rfl dX0_init_42 ?_
  refine v_callIN X min_X0_24 (k_state l γ _ (b + 12) rfl (reg_at h b _ 12 rfl)) rfl ⟨Nat.le_of_ble_eq_true rfl, Nat.le_of_ble_eq_true rfl, Nat.le_of_ble_eq_true rfl, Nat.le_of_ble_eq_true rfl⟩ (Nat.le_of_ble_eq_true rfl) rfl dX0_init_43 rfl (det_v ?_)
  refine v_eqh (reg_reg h b ([.inr (1, [.ref (b + 1), .int (nI 0), .int (nI 0)]), rE γ 1 6 (va_up (fun _ => none) 0 (some (b + 2)))] ++ (stB γ (b + 2))) [.inr (2, [.null, .null, .null, .null, .int 0, .int 0, .int 0, .int 0, .int 0])] _) ?_
  refine v_eqh (reg_c (L' := ([.inr (1, [.ref (b + 1), .int (nI 0), .int (nI 0)]), rE γ 1 6 (va_up (fun _ => none) 0 (some (b + 2)))] ++ (stB γ (b + 2) ++ (stB γ (b + 12))))) rfl) ?_
  refine v_aast (t0 := 1) (ci := 2) (r := (RX2, TX2, 9)) (v := b + 12) X (reg_at h b _ 1 rfl) rfl (reg_at h b _ 12 rfl) rfl (Or.inl rfl) 1 rfl (by decide) (by decide) dX0_init_46 ?_
  refine v_eqh (reg_set h b _ 1 _ (Nat.le_of_ble_eq_true rfl)) ?_
  refine v_eqh (reg_c (L' := ([.inr (1, [.ref (b + 1), .int (nI 0), .int (nI 0)]), rE γ 1 6 (va_up (va_up (fun _ => none) 0 (some (b + 2))) 1 (some (b + 12)))] ++ (stB γ (b + 2) ++ (stB γ (b + 12))))) rfl) ?_
  refine v_iinc' X rfl rfl (nI_inc _) dX0_init_47 ?_
  refine v_goto (tgt := 25) X dX0_init_50 (by decide) ?_
  refine v_iload_n X rfl dX0_init_25 ?_
  refine v_aload_n X rfl dX0_init_26 ?_
  refine v_getf X (v := (.ref (b + 1))) fd_X0_11 (reg_at h b _ 0 rfl) rfl dX0_init_27 ?_
  refine v_alen (t0 := 1) X (reg_at h b _ 1 rfl) rfl dX0_init_30 ?_
  change V p l e _ s m args below meth c γ Q0 _ _ _ _ _ (.int (nI 6) :: _)
  refine v_icmp_ge_f (tgt := 53) X dX0_init_31 (by decide) (by decide) ?_
  refine v_aload_n X rfl dX0_init_34 ?_
  refine v_getf X (v := (.ref (b + 1))) fd_X0_11 (reg_at h b _ 0 rfl) rfl dX0_init_35 ?_
  refine v_iload_n X rfl dX0_init_38 ?_
  refine v_new X nd_X0_9 (Nat.le_of_ble_eq_true rfl) (Nat.le_of_ble_eq_true rfl) dX0_init_39 ?_
  refine v_eqh (reg_new _ _ _ _) ?_
  refine v_eqh (reg_c (L' := ([.inr (1, [.ref (b + 1), .int (nI 0), .int (nI 0)]), rE γ 1 6 (va_up (va_up (fun _ => none) 0 (some (b + 2))) 1 (some (b + 12)))] ++ (stB γ (b + 2) ++ (stB γ (b + 12) ++ ([.inr (2, [.null, .null, .null, .null, .int 0, .int 0, .int 0, .int 0, .int 0])]))))) rfl) ?_
  refine v_eqh (reg_c (L' := ([.inr (1, [.ref (b + 1), .int (nI 0), .int (nI 0)]), rE γ 1 6 (va_up (va_up (fun _ => none) 0 (some (b + 2))) 1 (some (b + 12)))] ++ (stB γ (b + 2) ++ (stB γ (b + 12)))) ++ [.inr (2, [.null, .null, .null, .null, .int 0, .int 0, .int 0, .int 0, .int 0])]) rfl) ?_
  refine v_dup X rfl dX0_init_42 ?_
  refine v_callIN X min_X0_24 (k_state l γ _ (b + 22) rfl (reg_at h b _ 22 rfl)) rfl ⟨Nat.le_of_ble_eq_true rfl, Nat.le_of_ble_eq_true rfl, Nat.le_of_ble_eq_true rfl, Nat.le_of_ble_eq_true rfl⟩ (Nat.le_of_ble_eq_true rfl) rfl dX0_init_43 rfl (det_v ?_)
  refine v_eqh (reg_reg h b ([.inr (1, [.ref (b + 1), .int (nI 0), .int (nI 0)]), rE γ 1 6 (va_up (va_up (fun _ => none) 0 (some (b + 2))) 1 (some (b + 12)))] ++ (stB γ (b + 2) ++ (stB γ (b + 12)))) [.inr (2, [.null, .null, .null, .null, .int 0, .int 0, .int 0, .int 0, .int 0])] _) ?_
  refine v_eqh (reg_c (L' := ([.inr (1, [.ref (b + 1), .int (nI 0), .int (nI 0)]), rE γ 1 6 (va_up (va_up (fun _ => none) 0 (some (b + 2))) 1 (some (b + 12)))] ++ (stB γ (b + 2) ++ (stB γ (b + 12) ++ (stB γ (b + 22)))))) rfl) ?_
  refine v_aast (t0 := 1) (ci := 2) (r := (RX2, TX2, 9)) (v := b + 22) X (reg_at h b _ 1 rfl) rfl (reg_at h b _ 22 rfl) rfl (Or.inl rfl) 2 rfl (by decide) (by decide) dX0_init_46 ?_
  refine v_eqh (reg_set h b _ 1 _ (Nat.le_of_ble_eq_true rfl)) ?_
  refine v_eqh (reg_c (L' := ([.inr (1, [.ref (b + 1), .int (nI 0), .int (nI 0)]), rE γ 1 6 (va_up (va_up (va_up (fun _ => none) 0 (some (b + 2))) 1 (some (b + 12))) 2 (some (b + 22)))] ++ (stB γ (b + 2) ++ (stB γ (b + 12) ++ (stB γ (b + 22)))))) rfl) ?_
  refine v_iinc' X rfl rfl (nI_inc _) dX0_init_47 ?_
  refine v_goto (tgt := 25) X dX0_init_50 (by decide) ?_
  refine v_iload_n X rfl dX0_init_25 ?_
  refine v_aload_n X rfl dX0_init_26 ?_
  refine v_getf X (v := (.ref (b + 1))) fd_X0_11 (reg_at h b _ 0 rfl) rfl dX0_init_27 ?_
  refine v_alen (t0 := 1) X (reg_at h b _ 1 rfl) rfl dX0_init_30 ?_
  change V p l e _ s m args below meth c γ Q0 _ _ _ _ _ (.int (nI 6) :: _)
  refine v_icmp_ge_f (tgt := 53) X dX0_init_31 (by decide) (by decide) ?_
  refine v_aload_n X rfl dX0_init_34 ?_
  refine v_getf X (v := (.ref (b + 1))) fd_X0_11 (reg_at h b _ 0 rfl) rfl dX0_init_35 ?_
  refine v_iload_n X rfl dX0_init_38 ?_
  refine v_new X nd_X0_9 (Nat.le_of_ble_eq_true rfl) (Nat.le_of_ble_eq_true rfl) dX0_init_39 ?_
  refine v_eqh (reg_new _ _ _ _) ?_
  refine v_eqh (reg_c (L' := ([.inr (1, [.ref (b + 1), .int (nI 0), .int (nI 0)]), rE γ 1 6 (va_up (va_up (va_up (fun _ => none) 0 (some (b + 2))) 1 (some (b + 12))) 2 (some (b + 22)))] ++ (stB γ (b + 2) ++ (stB γ (b + 12) ++ (stB γ (b + 22) ++ ([.inr (2, [.null, .null, .null, .null, .int 0, .int 0, .int 0, .int 0, .int 0])])))))) rfl) ?_
  refine v_eqh (reg_c (L' := ([.inr (1, [.ref (b + 1), .int (nI 0), .int (nI 0)]), rE γ 1 6 (va_up (va_up (va_up (fun _ => none) 0 (some (b + 2))) 1 (some (b + 12))) 2 (some (b + 22)))] ++ (stB γ (b + 2) ++ (stB γ (b + 12) ++ (stB γ (b + 22))))) ++ [.inr (2, [.null, .null, .null, .null, .int 0, .int 0, .int 0, .int 0, .int 0])]) rfl) ?_
  refine v_dup X rfl dX0_init_42 ?_
  refine v_callIN X min_X0_24 (k_state l γ _ (b + 32) rfl (reg_at h b _ 32 rfl)) rfl ⟨Nat.le_of_ble_eq_true rfl, Nat.le_of_ble_eq_true rfl, Nat.le_of_ble_eq_true rfl, Nat.le_of_ble_eq_true rfl⟩ (Nat.le_of_ble_eq_true rfl) rfl dX0_init_43 rfl (det_v ?_)
  refine v_eqh (reg_reg h b ([.inr (1, [.ref (b + 1), .int (nI 0), .int (nI 0)]), rE γ 1 6 (va_up (va_up (va_up (fun _ => none) 0 (some (b + 2))) 1 (some (b + 12))) 2 (some (b + 22)))] ++ (stB γ (b + 2) ++ (stB γ (b + 12) ++ (stB γ (b + 22))))) [.inr (2, [.null, .null, .null, .null, .int 0, .int 0, .int 0, .int 0, .int 0])] _) ?_
  refine v_eqh (reg_c (L' := ([.inr (1, [.ref (b + 1), .int (nI 0), .int (nI 0)]), rE γ 1 6 (va_up (va_up (va_up (fun _ => none) 0 (some (b + 2))) 1 (some (b + 12))) 2 (some (b + 22)))] ++ (stB γ (b + 2) ++ (stB γ (b + 12) ++ (stB γ (b + 22) ++ (stB γ (b + 32))))))) rfl) ?_
  refine v_aast (t0 := 1) (ci := 2) (r := (RX2, TX2, 9)) (v := b + 32) X (reg_at h b _ 1 rfl) rfl (reg_at h b _ 32 rfl) rfl (Or.inl rfl) 3 rfl (by decide) (by decide) dX0_init_46 ?_
  refine v_eqh (reg_set h b _ 1 _ (Nat.le_of_ble_eq_true rfl)) ?_
  refine v_eqh (reg_c (L' := ([.inr (1, [.ref (b + 1), .int (nI 0), .int (nI 0)]), rE γ 1 6 (va_up (va_up (va_up (va_up (fun _ => none) 0 (some (b + 2))) 1 (some (b + 12))) 2 (some (b + 22))) 3 (some (b + 32)))] ++ (stB γ (b + 2) ++ (stB γ (b + 12) ++ (stB γ (b + 22) ++ (stB γ (b + 32))))))) rfl) ?_
  refine v_iinc' X rfl rfl (nI_inc _) dX0_init_47 ?_
  refine v_goto (tgt := 25) X dX0_init_50 (by decide) ?_
  refine v_iload_n X rfl dX0_init_25 ?_
  refine v_aload_n X rfl dX0_init_26 ?_
  refine v_getf X (v := (.ref (b + 1))) fd_X0_11 (reg_at h b _ 0 rfl) rfl dX0_init_27 ?_
  refine v_alen (t0 := 1) X (reg_at h b _ 1 rfl) rfl dX0_init_30 ?_
  change V p l e _ s m args below meth c γ Q0 _ _ _ _ _ (.int (nI 6) :: _)
  refine v_icmp_ge_f (tgt := 53) X dX0_init_31 (by decide) (by decide) ?_
  refine v_aload_n X rfl dX0_init_34 ?_
  refine v_getf X (v := (.ref (b + 1))) fd_X0_11 (reg_at h b _ 0 rfl) rfl dX0_init_35 ?_
  refine v_iload_n X rfl dX0_init_38 ?_
  refine v_new X nd_X0_9 (Nat.le_of_ble_eq_true rfl) (Nat.le_of_ble_eq_true rfl) dX0_init_39 ?_
  refine v_eqh (reg_new _ _ _ _) ?_
  refine v_eqh (reg_c (L' := ([.inr (1, [.ref (b + 1), .int (nI 0), .int (nI 0)]), rE γ 1 6 (va_up (va_up (va_up (va_up (fun _ => none) 0 (some (b + 2))) 1 (some (b + 12))) 2 (some (b + 22))) 3 (some (b + 32)))] ++ (stB γ (b + 2) ++ (stB γ (b + 12) ++ (stB γ (b + 22) ++ (stB γ (b + 32) ++ ([.inr (2, [.null, .null, .null, .null, .int 0, .int 0, .int 0, .int 0, .int 0])]))))))) rfl) ?_
  refine v_eqh (reg_c (L' := ([.inr (1, [.ref (b + 1), .int (nI 0), .int (nI 0)]), rE γ 1 6 (va_up (va_up (va_up (va_up (fun _ => none) 0 (some (b + 2))) 1 (some (b + 12))) 2 (some (b + 22))) 3 (some (b + 32)))] ++ (stB γ (b + 2) ++ (stB γ (b + 12) ++ (stB γ (b + 22) ++ (stB γ (b + 32)))))) ++ [.inr (2, [.null, .null, .null, .null, .int 0, .int 0, .int 0, .int 0, .int 0])]) rfl) ?_
  refine v_dup X rfl dX0_init_42 ?_
  refine v_callIN X min_X0_24 (k_state l γ _ (b + 42) rfl (reg_at h b _ 42 rfl)) rfl ⟨Nat.le_of_ble_eq_true rfl, Nat.le_of_ble_eq_true rfl, Nat.le_of_ble_eq_true rfl, Nat.le_of_ble_eq_true rfl⟩ (Nat.le_of_ble_eq_true rfl) rfl dX0_init_43 rfl (det_v ?_)
  refine v_eqh (reg_reg h b ([.inr (1, [.ref (b + 1), .int (nI 0), .int (nI 0)]), rE γ 1 6 (va_up (va_up (va_up (va_up (fun _ => none) 0 (some (b + 2))) 1 (some (b + 12))) 2 (some (b + 22))) 3 (some (b + 32)))] ++ (stB γ (b + 2) ++ (stB γ (b + 12) ++ (stB γ (b + 22) ++ (stB γ (b + 32)))))) [.inr (2, [.null, .null, .null, .null, .int 0, .int 0, .int 0, .int 0, .int 0])] _) ?_
  refine v_eqh (reg_c (L' := ([.inr (1, [.ref (b + 1), .int (nI 0), .int (nI 0)]), rE γ 1 6 (va_up (va_up (va_up (va_up (fun _ => none) 0 (some (b + 2))) 1 (some (b + 12))) 2 (some (b + 22))) 3 (some (b + 32)))] ++ (stB γ (b + 2) ++ (stB γ (b + 12) ++ (stB γ (b + 22) ++ (stB γ (b + 32) ++ (stB γ (b + 42)))))))) rfl) ?_
  refine v_aast (t0 := 1) (ci := 2) (r := (RX2, TX2, 9)) (v := b + 42) X (reg_at h b _ 1 rfl) rfl (reg_at h b _ 42 rfl) rfl (Or.inl rfl) 4 rfl (by decide) (by decide) dX0_init_46 ?_
  refine v_eqh (reg_set h b _ 1 _ (Nat.le_of_ble_eq_true rfl)) ?_
  refine v_eqh (reg_c (L' := ([.inr (1, [.ref (b + 1), .int (nI 0), .int (nI 0)]), rE γ 1 6 (va_up (va_up (va_up (va_up (va_up (fun _ => none) 0 (some (b + 2))) 1 (some (b + 12))) 2 (some (b + 22))) 3 (some (b + 32))) 4 (some (b + 42)))] ++ (stB γ (b + 2) ++ (stB γ (b + 12) ++ (stB γ (b + 22) ++ (stB γ (b + 32) ++ (stB γ (b + 42)))))))) rfl) ?_
  refine v_iinc' X rfl rfl (nI_inc _) dX0_init_47 ?_
  refine v_goto (tgt := 25) X dX0_init_50 (by decide) ?_
  refine v_iload_n X rfl dX0_init_25 ?_
  refine v_aload_n X rfl dX0_init_26 ?_
  refine v_getf X (v := (.ref (b + 1))) fd_X0_11 (reg_at h b _ 0 rfl) rfl dX0_init_27 ?_
  refine v_alen (t0 := 1) X (reg_at h b _ 1 rfl) rfl dX0_init_30 ?_
  change V p l e _ s m args below meth c γ Q0 _ _ _ _ _ (.int (nI 6) :: _)
  refine v_icmp_ge_f (tgt := 53) X dX0_init_31 (by decide) (by decide) ?_
  refine v_aload_n X rfl dX0_init_34 ?_
  refine v_getf X (v := (.ref (b + 1))) fd_X0_11 (reg_at h b _ 0 rfl) rfl dX0_init_35 ?_
  refine v_iload_n X rfl dX0_init_38 ?_
  refine v_new X nd_X0_9 (Nat.le_of_ble_eq_true rfl) (Nat.le_of_ble_eq_true rfl) dX0_init_39 ?_
  refine v_eqh (reg_new _ _ _ _) ?_
  refine v_eqh (reg_c (L' := ([.inr (1, [.ref (b + 1), .int (nI 0), .int (nI 0)]), rE γ 1 6 (va_up (va_up (va_up (va_up (va_up (fun _ => none) 0 (some (b + 2))) 1 (some (b + 12))) 2 (some (b + 22))) 3 (some (b + 32))) 4 (some (b + 42)))] ++ (stB γ (b + 2) ++ (stB γ (b + 12) ++ (stB γ (b + 22) ++ (stB γ (b + 32) ++ (stB γ (b + 42) ++ ([.inr (2, [.null, .null, .null, .null, .int 0, .int 0, .int 0, .int 0, .int 0])])))))))) rfl) ?_
  refine v_eqh (reg_c (L' := ([.inr (1, [.ref (b + 1), .int (nI 0), .int (nI 0)]), rE γ 1 6 (va_up (va_up (va_up (va_up (va_up (fun _ => none) 0 (some (b + 2))) 1 (some (b + 12))) 2 (some (b + 22))) 3 (some (b + 32))) 4 (some (b + 42)))] ++ (stB γ (b + 2) ++ (stB γ (b + 12) ++ (stB γ (b + 22) ++ (stB γ (b + 32) ++ (stB γ (b + 42))))))) ++ [.inr (2, [.null, .null, .null, .null, .int 0, .int 0, .int 0, .int 0, .int 0])]) rfl) ?_
  refine v_dup X rfl dX0_init_42 ?_
  refine v_callIN X min_X0_24 (k_state l γ _ (b + 52) rfl (reg_at h b _ 52 rfl)) rfl ⟨Nat.le_of_ble_eq_true rfl, Nat.le_of_ble_eq_true rfl, Nat.le_of_ble_eq_true rfl, Nat.le_of_ble_eq_true rfl⟩ (Nat.le_of_ble_eq_true rfl) rfl dX0_init_43 rfl (det_v ?_)
  refine v_eqh (reg_reg h b ([.inr (1, [.ref (b + 1), .int (nI 0), .int (nI 0)]), rE γ 1 6 (va_up (va_up (va_up (va_up (va_up (fun _ => none) 0 (some (b + 2))) 1 (some (b + 12))) 2 (some (b + 22))) 3 (some (b + 32))) 4 (some (b + 42)))] ++ (stB γ (b + 2) ++ (stB γ (b + 12) ++ (stB γ (b + 22) ++ (stB γ (b + 32) ++ (stB γ (b + 42))))))) [.inr (2, [.null, .null, .null, .null, .int 0, .int 0, .int 0, .int 0, .int 0])] _) ?_
  refine v_eqh (reg_c (L' := ([.inr (1, [.ref (b + 1), .int (nI 0), .int (nI 0)]), rE γ 1 6 (va_up (va_up (va_up (va_up (va_up (fun _ => none) 0 (some (b + 2))) 1 (some (b + 12))) 2 (some (b + 22))) 3 (some (b + 32))) 4 (some (b + 42)))] ++ (stB γ (b + 2) ++ (stB γ (b + 12) ++ (stB γ (b + 22) ++ (stB γ (b + 32) ++ (stB γ (b + 42) ++ (stB γ (b + 52))))))))) rfl) ?_
  refine v_aast (t0 := 1) (ci := 2) (r := (RX2, TX2, 9)) (v := b + 52) X (reg_at h b _ 1 rfl) rfl (reg_at h b _ 52 rfl) rfl (Or.inl rfl) 5 rfl (by decide) (by decide) dX0_init_46 ?_
  refine v_eqh (reg_set h b _ 1 _ (Nat.le_of_ble_eq_true rfl)) ?_
  refine v_eqh (reg_c (L' := ([.inr (1, [.ref (b + 1), .int (nI 0), .int (nI 0)]), rE γ 1 6 (va_up (va_up (va_up (va_up (va_up (va_up (fun _ => none) 0 (some (b + 2))) 1 (some (b + 12))) 2 (some (b + 22))) 3 (some (b + 32))) 4 (some (b + 42))) 5 (some (b + 52)))] ++ (stB γ (b + 2) ++ (stB γ (b + 12) ++ (stB γ (b + 22) ++ (stB γ (b + 32) ++ (stB γ (b + 42) ++ (stB γ (b + 52))))))))) rfl) ?_
  refine v_iinc' X rfl rfl (nI_inc _) dX0_init_47 ?_
  refine v_goto (tgt := 25) X dX0_init_50 (by decide) ?_
  refine v_iload_n X rfl dX0_init_25 ?_
  refine v_aload_n X rfl dX0_init_26 ?_
  refine v_getf X (v := (.ref (b + 1))) fd_X0_11 (reg_at h b _ 0 rfl) rfl dX0_init_27 ?_
  refine v_alen (t0 := 1) X (reg_at h b _ 1 rfl) rfl dX0_init_30 ?_
  change V p l e _ s m args below meth c γ Q0 _ _ _ _ _ (.int (nI 6) :: _)
  refine v_icmp_ge_t (tgt := 53) X dX0_init_31 (by decide) (by decide) ?_
  refine v_rE (t := 1) (n := 6) (g := fun q => some (b + (2 + 10 * q))) (reg_at h b _ 1 rfl) (fun i hi => by rcases (by omega : i = 0 ∨ i = 1 ∨ i = 2 ∨ i = 3 ∨ i = 4 ∨ i = 5) with rfl | rfl | rfl | rfl | rfl | rfl <;> rfl) ?_
  refine v_eqh (reg_set h b _ 1 _ (Nat.le_of_ble_eq_true rfl)) ?_
  refine v_eqh (reg_c (L' := ([.inr (1, [.ref (b + 1), .int (nI 0), .int (nI 0)]), rE γ 1 6 (fun q => some (b + (2 + 10 * q)))] ++ (stB γ (b + 2) ++ (stB γ (b + 12) ++ (stB γ (b + 22) ++ (stB γ (b + 32) ++ (stB γ (b + 42) ++ (stB γ (b + 52))))))))) rfl) ?_
  subst hQ0
  exact v_vret X rfl (Nat.le_of_ble_eq_true rfl) (Nat.le_of_ble_eq_true rfl) dX0_init_53 ⟨rfl, rfl⟩
def btB (γ : Gm) (b : Nat) : List va_E := ([.inr (6, [.ref (b + 1), .ref (b + 4), .ref (b + 14), .ref (b + 24)])] ++ (txB γ (b + 1) ++ (stB γ (b + 4) ++ (stB γ (b + 14) ++ (hiB γ (b + 24))))))
set_option maxHeartbeats 4000000 in
set_option maxRecDepth 100000 in
theorem c_X6_init (l : Launch) (γ : Gm) (h : HP) (b : Nat) (h2 : h.2 = b + 1) (hb : h.1 b = some (.inr (6, [.null, .null, .null, .null]))) : Cr l γ yX6_init cX6_init 1 none 6 125 85 1629 [.ref b] (h) (Det none (reg h b (btB γ b))) := by
  refine Cr_of [some (.ref b)] (by decide +kernel) (Nat.le_of_ble_eq_true rfl) rfl ?_
  intro p e s m args below meth c X
  refine v_q0 (fun Q0 hQ0 => ?_)
  refine v_le (reg_le h2 hb) ?_
  refine v_aload_n X rfl dX6_init_0 ?_
  refine v_objInit X oi_X6_1 (Nat.le_of_ble_eq_true rfl) (Nat.le_of_ble_eq_true rfl) rfl dX6_init_1 ?_
  refine v_aload_n X rfl dX6_init_4 ?_
  refine v_new X nd_X6_7 (Nat.le_of_ble_eq_true rfl) (Nat.le_of_ble_eq_true rfl) dX6_init_5 ?_
  refine v_eqh (reg_new _ _ _ _) ?_
  refine v_eqh (reg_c (L' := ([.inr (6, [.null, .null, .null, .null])] ++ ([.inr (3, [.null, .int 0, .null, .int 0, .int 0])]))) rfl) ?_
  refine v_eqh (reg_c (L' := ([.inr (6, [.null, .null, .null, .null])]) ++ [.inr (3, [.null, .int 0, .null, .int 0, .int 0])]) rfl) ?_
  refine v_dup X rfl dX6_init_8 ?_
  refine v_callIN X min_X6_9 (k_text l γ _ (b + 1) rfl (reg_at h b _ 1 rfl)) rfl ⟨Nat.le_of_ble_eq_true rfl, Nat.le_of_ble_eq_true rfl, Nat.le_of_ble_eq_true rfl, Nat.le_of_ble_eq_true rfl⟩ (Nat.le_of_ble_eq_true rfl) rfl dX6_init_9 rfl (det_v ?_)
  refine v_eqh (reg_reg h b ([.inr (6, [.null, .null, .null, .null])]) [.inr (3, [.null, .int 0, .null, .int 0, .int 0])] _) ?_
  refine v_eqh (reg_c (L' := ([.inr (6, [.null, .null, .null, .null])] ++ (txB γ (b + 1)))) rfl) ?_
  refine v_putF X fp_X6_10 rfl (reg_at h b _ 0 rfl) rfl rfl (Nat.le_of_ble_eq_true rfl) dX6_init_12 ?_
  refine v_eqh (reg_set h b _ 0 _ (Nat.le_of_ble_eq_true rfl)) ?_
  refine v_eqh (reg_c (L' := ([.inr (6, [.ref (b + 1), .null, .null, .null])] ++ (txB γ (b + 1)))) rfl) ?_
  refine v_aload_n X rfl dX6_init_15 ?_
  refine v_new X nd_X6_16 (Nat.le_of_ble_eq_true rfl) (Nat.le_of_ble_eq_true rfl) dX6_init_16 ?_
  refine v_eqh (reg_new _ _ _ _) ?_
  refine v_eqh (reg_c (L' := ([.inr (6, [.ref (b + 1), .null, .null, .null])] ++ (txB γ (b + 1) ++ ([.inr (2, [.null, .null, .null, .null, .int 0, .int 0, .int 0, .int 0, .int 0])])))) rfl) ?_
  refine v_eqh (reg_c (L' := ([.inr (6, [.ref (b + 1), .null, .null, .null])] ++ (txB γ (b + 1))) ++ [.inr (2, [.null, .null, .null, .null, .int 0, .int 0, .int 0, .int 0, .int 0])]) rfl) ?_
  refine v_dup X rfl dX6_init_19 ?_
  refine v_callIN X min_X6_18 (k_state l γ _ (b + 4) rfl (reg_at h b _ 4 rfl)) rfl ⟨Nat.le_of_ble_eq_true rfl, Nat.le_of_ble_eq_true rfl, Nat.le_of_ble_eq_true rfl, Nat.le_of_ble_eq_true rfl⟩ (Nat.le_of_ble_eq_true rfl) rfl dX6_init_20 rfl (det_v ?_)
  refine v_eqh (reg_reg h b ([.inr (6, [.ref (b + 1), .null, .null, .null])] ++ (txB γ (b + 1))) [.inr (2, [.null, .null, .null, .null, .int 0, .int 0, .int 0, .int 0, .int 0])] _) ?_
  refine v_eqh (reg_c (L' := ([.inr (6, [.ref (b + 1), .null, .null, .null])] ++ (txB γ (b + 1) ++ (stB γ (b + 4))))) rfl) ?_
  refine v_putF X fp_X6_19 rfl (reg_at h b _ 0 rfl) rfl rfl (Nat.le_of_ble_eq_true rfl) dX6_init_23 ?_
  refine v_eqh (reg_set h b _ 0 _ (Nat.le_of_ble_eq_true rfl)) ?_
  refine v_eqh (reg_c (L' := ([.inr (6, [.ref (b + 1), .ref (b + 4), .null, .null])] ++ (txB γ (b + 1) ++ (stB γ (b + 4))))) rfl) ?_
  refine v_aload_n X rfl dX6_init_26 ?_
  refine v_new X nd_X6_16 (Nat.le_of_ble_eq_true rfl) (Nat.le_of_ble_eq_true rfl) dX6_init_27 ?_
  refine v_eqh (reg_new _ _ _ _) ?_
  refine v_eqh (reg_c (L' := ([.inr (6, [.ref (b + 1), .ref (b + 4), .null, .null])] ++ (txB γ (b + 1) ++ (stB γ (b + 4) ++ ([.inr (2, [.null, .null, .null, .null, .int 0, .int 0, .int 0, .int 0, .int 0])]))))) rfl) ?_
  refine v_eqh (reg_c (L' := ([.inr (6, [.ref (b + 1), .ref (b + 4), .null, .null])] ++ (txB γ (b + 1) ++ (stB γ (b + 4)))) ++ [.inr (2, [.null, .null, .null, .null, .int 0, .int 0, .int 0, .int 0, .int 0])]) rfl) ?_
  refine v_dup X rfl dX6_init_30 ?_
  refine v_callIN X min_X6_18 (k_state l γ _ (b + 14) rfl (reg_at h b _ 14 rfl)) rfl ⟨Nat.le_of_ble_eq_true rfl, Nat.le_of_ble_eq_true rfl, Nat.le_of_ble_eq_true rfl, Nat.le_of_ble_eq_true rfl⟩ (Nat.le_of_ble_eq_true rfl) rfl dX6_init_31 rfl (det_v ?_)
  refine v_eqh (reg_reg h b ([.inr (6, [.ref (b + 1), .ref (b + 4), .null, .null])] ++ (txB γ (b + 1) ++ (stB γ (b + 4)))) [.inr (2, [.null, .null, .null, .null, .int 0, .int 0, .int 0, .int 0, .int 0])] _) ?_
  refine v_eqh (reg_c (L' := ([.inr (6, [.ref (b + 1), .ref (b + 4), .null, .null])] ++ (txB γ (b + 1) ++ (stB γ (b + 4) ++ (stB γ (b + 14)))))) rfl) ?_
  refine v_putF X fp_X6_23 rfl (reg_at h b _ 0 rfl) rfl rfl (Nat.le_of_ble_eq_true rfl) dX6_init_34 ?_
  refine v_eqh (reg_set h b _ 0 _ (Nat.le_of_ble_eq_true rfl)) ?_
  refine v_eqh (reg_c (L' := ([.inr (6, [.ref (b + 1), .ref (b + 4), .ref (b + 14), .null])] ++ (txB γ (b + 1) ++ (stB γ (b + 4) ++ (stB γ (b + 14)))))) rfl) ?_
  refine v_aload_n X rfl dX6_init_37 ?_
  refine v_new X nd_X6_26 (Nat.le_of_ble_eq_true rfl) (Nat.le_of_ble_eq_true rfl) dX6_init_38 ?_
  refine v_eqh (reg_new _ _ _ _) ?_
  refine v_eqh (reg_c (L' := ([.inr (6, [.ref (b + 1), .ref (b + 4), .ref (b + 14), .null])] ++ (txB γ (b + 1) ++ (stB γ (b + 4) ++ (stB γ (b + 14) ++ ([.inr (1, [.null, .int 0, .int 0])])))))) rfl) ?_
  refine v_eqh (reg_c (L' := ([.inr (6, [.ref (b + 1), .ref (b + 4), .ref (b + 14), .null])] ++ (txB γ (b + 1) ++ (stB γ (b + 4) ++ (stB γ (b + 14))))) ++ [.inr (1, [.null, .int 0, .int 0])]) rfl) ?_
  refine v_dup X rfl dX6_init_41 ?_
  refine v_callI X mi_X6_28 (c_X0_init l γ _ (b + 24) rfl (reg_at h b _ 24 rfl)) rfl ⟨Nat.le_of_ble_eq_true rfl, Nat.le_of_ble_eq_true rfl, Nat.le_of_ble_eq_true rfl, Nat.le_of_ble_eq_true rfl⟩ (Nat.le_of_ble_eq_true rfl) rfl dX6_init_42 rfl (det_v ?_)
  refine v_eqh (reg_reg h b ([.inr (6, [.ref (b + 1), .ref (b + 4), .ref (b + 14), .null])] ++ (txB γ (b + 1) ++ (stB γ (b + 4) ++ (stB γ (b + 14))))) [.inr (1, [.null, .int 0, .int 0])] _) ?_
  refine v_eqh (reg_c (L' := ([.inr (6, [.ref (b + 1), .ref (b + 4), .ref (b + 14), .null])] ++ (txB γ (b + 1) ++ (stB γ (b + 4) ++ (stB γ (b + 14) ++ (hiB γ (b + 24))))))) rfl) ?_
  refine v_putF X fp_X6_29 rfl (reg_at h b _ 0 rfl) rfl rfl (Nat.le_of_ble_eq_true rfl) dX6_init_45 ?_
  refine v_eqh (reg_set h b _ 0 _ (Nat.le_of_ble_eq_true rfl)) ?_
  refine v_eqh (reg_c (L' := ([.inr (6, [.ref (b + 1), .ref (b + 4), .ref (b + 14), .ref (b + 24)])] ++ (txB γ (b + 1) ++ (stB γ (b + 4) ++ (stB γ (b + 14) ++ (hiB γ (b + 24))))))) rfl) ?_
  subst hQ0
  exact v_vret X rfl (Nat.le_of_ble_eq_true rfl) (Nat.le_of_ble_eq_true rfl) dX6_init_48 ⟨rfl, rfl⟩
