/-! the law from its entry -/
section LWK
variable {p : Program} {l : Launch} {e : Env} {R : Room} {s : State} {m : MethodId} {args : Array Value} {below : List Frame} {meth : Method} {c : Code} {γ : Gm} {Q : State → Prop} {h : HP} {k j pc : Nat} {L : List (Option Value)} {st : List Value}
theorem sp_i {nc kn : Nat} (kk : ∀ (W2 : Wd) (M2 : Nat → Int32) (cn2 tm2 : Nat), LI γ W2 (nc + 1) M2 cn2 tm2 → (kn = 0 ∨ cn2 = kn) → V p l e R s m args below meth c γ Q (rdw γ (wset W2 10 M2)) k j pc L (.int (nI 1) :: st)) : ∀ (v : Option Value) (h' : HP), SP γ nc kn v h' → V p l e R s m args below meth c γ Q h' k j pc L (v.toList ++ st) := by
  rintro v h' ⟨rfl, W2, M2, cn2, tm2, rfl, h1, h2⟩
  exact kk W2 M2 cn2 tm2 h1 h2
end LWK
theorem hz_of {j v : Nat} (h : (j = 0 ∧ 1 ≤ v ∧ v ≤ 20) ∨ (j = 1 ∧ 1 ≤ v ∧ v ≤ 60) ∨ (j = 2 ∧ v ≤ 9) ∨ (j = 3 ∧ v ≤ 200) ∨ (j = 4 ∧ v ≤ 60)) : ¬ nI v < lstS j ∧ ¬ mstS j < nI v := by
  rcases h with ⟨rfl, a, b⟩ | ⟨rfl, a, b⟩ | ⟨rfl, b⟩ | ⟨rfl, b⟩ | ⟨rfl, b⟩
  · exact nI_in1 (a := 1) (N := 20) a b (by decide)
  · exact nI_in1 (a := 1) (N := 60) a b (by decide)
  · exact nI_in0 (N := 9) b (by decide)
  · exact nI_in0 (N := 200) b (by decide)
  · exact nI_in0 (N := 60) b (by decide)
theorem kb_26 : (Int8.ofInt (26)).toInt32 = nI 26 := by decide
theorem beg_m0 : upd (upd (upd (upd (upd (q_couples z0 (nI 3)) 228 (nI 4)) 229 (nI 12)) 230 (nI 1)) 231 (nI 100)) 232 (nI 8) = m0 := by
  funext i
  by_cases hi : i < 233
  · exact (by decide +kernel : ∀ i, i < 233 → upd (upd (upd (upd (upd (q_couples z0 (nI 3)) 228 (nI 4)) 229 (nI 12)) 230 (nI 1)) 231 (nI 100)) 232 (nI 8) i = m0 i) i hi
  · rw [pk_un (by omega), pk_un (by omega), pk_un (by omega), pk_un (by omega), pk_un (by omega), cou_off (by omega) (by omega) (by omega) (by omega) (by omega)]
    unfold m0
    rw [cou_off (by omega) (by omega) (by omega) (by omega) (by omega)]
    unfold m1
    rw [pk_un (by omega), pk_un (by omega), pk_un (by omega), pk_un (by omega), pk_un (by omega)]
theorem ci_1 (γ : Gm) : CI γ (wset (w0 γ) 10 m0) 0 m0 z0 z0 0 0 3 0 0 := by
  have h := ci_0 γ
  rw [show w0 γ = wset (w0 γ) 10 z0 from (wset_self (w0 γ) 10).symm] at h
  exact h.b10 m0
theorem iv_0 : IV m0 0 := by
  have h1 : ∀ i, i < 120 → m0 i = 0 := (by decide +kernel : ∀ i, i < 120 → m0 i = 0)
  have h2 : ∀ a, a < 6 → m0 (120 + 8 * a) = 0 := (by decide +kernel : ∀ a, a < 6 → m0 (120 + 8 * a) = 0)
  have h3 : m0 226 = 0 ∧ m0 227 = 0 := by decide +kernel
  refine ⟨fun i hi => by rw [h1 i hi]; decide, fun a ha => by rw [h2 a ha]; decide, by rw [h3.1]; decide, by rw [h3.2]; decide, ?_⟩
  rw [hsum_c (M := z0) 120 h1, lsum_c (M := z0) 6 h2, h3.1, h3.2]
  decide +kernel
theorem li_0 (γ : Gm) : LI γ (w0 γ) 0 m0 3 0 := by
  have e : (m0 225).toInt = 0 := by decide +kernel
  exact ⟨⟨z0, z0, 0, 0, ci_1 γ⟩, Nat.zero_le _, by rw [e]; exact iv_0, by rw [e]; decide⟩
theorem k_undo0 (l : Launch) (γ : Gm) (W : Wd) (nc : Nat) (M P T : Nat → Int32) (t cn q tm : Nat) (hI : CI γ W nc M P T 0 t cn q tm) (hnc : nc < 600) : Cr l γ yX6_undo cX6_undo 1 (some .int) 10 235 12 180 [.ref γ.1] (rdw γ W) (Det (some (.int (-1003))) (rdw γ W)) := by
  refine Cr_wk (c_X6_undo l γ W nc M P T 0 t cn q tm hI hnc) (Nat.le_refl _) (Nat.le_refl _) (Nat.le_refl _) (Nat.le_refl _) ?_
  rintro v x ⟨rfl, ⟨-, rfl⟩ | ⟨z, -⟩⟩
  · exact ⟨rfl, rfl⟩
  · exact absurd rfl z
set_option maxHeartbeats 8000000 in
set_option maxRecDepth 100000 in
theorem law_walk {p : Program} {l : Launch} {e : Env} {s : State} {m : MethodId} {args : Array Value} {below : List Frame} {meth : Method} {c : Code} {γ : Gm} {Q : State → Prop} (X : Cx p s m args meth c γ yL_law cL_law 11 (some .boolean))
    (hend : ∀ (h : HP) (k j : Nat) (L : List (Option Value)), k ≤ 600000 → j ≤ 7302250 → V p l e room_1 s m args below meth c γ Q h k j 700 L [.int (nI 1)]) : V p l e room_1 s m args below meth c γ Q (fun _ => none, γ.1) 0 0 0 [some (.ref (γ.2.2.2 5)), none, none, none, none, none, none, none, none, none, none] [] := by
  refine v_new X nd_L_34 (Nat.le_of_ble_eq_true rfl) (Nat.le_of_ble_eq_true rfl) dL_law_0 ?_
  refine v_dup X rfl dL_law_3 ?_
  refine v_callI X mi_L_82 (c_X6_init l γ _ γ.1 rfl (hnew_at _ _)) rfl ⟨Nat.le_of_ble_eq_true rfl, Nat.le_of_ble_eq_true rfl, Nat.le_of_ble_eq_true rfl, Nat.le_of_ble_eq_true rfl⟩ (Nat.le_of_ble_eq_true rfl) rfl dL_law_4 rfl (det_v ?_)
  refine v_astore_n X (Nat.le_of_ble_eq_true rfl) rfl dL_law_7 ?_
  refine v_bipush' X kb_40 dL_law_8 ?_
  refine v_newarr X 40 rfl (by decide) ac_int (Nat.le_of_ble_eq_true rfl) (Nat.le_of_ble_eq_true rfl) dL_law_10 ?_
  refine v_eqh (reg_new _ _ _ _) ?_
  change V p l e _ s m args below meth c γ Q _ _ _ _ _ (.ref (γ.1 + 86) :: _)
  refine v_astore_n X (Nat.le_of_ble_eq_true rfl) rfl dL_law_12 ?_
  refine v_bipush' X kb_64 dL_law_13 ?_
  refine v_newarr X 64 rfl (by decide) ac_int (Nat.le_of_ble_eq_true rfl) (Nat.le_of_ble_eq_true rfl) dL_law_15 ?_
  refine v_eqh (reg_new _ _ _ _) ?_
  change V p l e _ s m args below meth c γ Q _ _ _ _ _ (.ref (γ.1 + 87) :: _)
  refine v_astore_n X (Nat.le_of_ble_eq_true rfl) rfl dL_law_17 ?_
  refine v_bipush' X kb_64 dL_law_18 ?_
  refine v_newarr X 64 rfl (by decide) ac_int (Nat.le_of_ble_eq_true rfl) (Nat.le_of_ble_eq_true rfl) dL_law_20 ?_
  refine v_eqh (reg_new _ _ _ _) ?_
  change V p l e _ s m args below meth c γ Q _ _ _ _ _ (.ref (γ.1 + 88) :: _)
  refine v_astore X (Nat.le_of_ble_eq_true rfl) rfl dL_law_22 ?_
  refine v_le mk_le ?_
  refine v_eqh (show rdw γ (w0 γ) = rdw γ (wset (w0 γ) 10 z0) from congrArg (rdw γ) (wset_self (w0 γ) 10).symm) ?_
  refine v_aload_n X rfl dL_law_24 ?_
  refine v_callS X ms_L_83 (c_L_begins l γ (w0 γ) z0) rfl ⟨Nat.le_of_ble_eq_true rfl, Nat.le_of_ble_eq_true rfl, Nat.le_of_ble_eq_true rfl, Nat.le_of_ble_eq_true rfl⟩ (Nat.le_of_ble_eq_true rfl) rfl dL_law_25 rfl (det_v ?_)
  rw [beg_m0]
  have hI0 := ci_1 γ
  refine v_aload_n X rfl dL_law_28 ?_
  refine v_iconst' X kc_3 dL_law_29 ?_
  refine v_iconst' X kc_1 dL_law_30 ?_
  refine v_callV (ci := 6) X mv_L_39 (mut_no (c_X6_load l γ (wset (w0 γ) 10 m0) 0 m0 z0 z0 0 0 3 0 0 hI0 (by omega) (nI 3) (nI 1)) (fun z9 => z9.1.2 (by decide)) (if_neg (fun z9 => z9.2 (by decide)))) rfl rfl (rd_BT γ _) rfl ⟨Nat.le_of_ble_eq_true rfl, Nat.le_of_ble_eq_true rfl, Nat.le_of_ble_eq_true rfl, Nat.le_of_ble_eq_true rfl⟩ (Nat.le_of_ble_eq_true rfl) rfl dL_law_31 rfl (det_i ?_)
  refine v_sipush' X ks_m1002 dL_law_34 ?_
  refine v_icmp_ne_f (tgt := 135) X dL_law_37 (by decide) rfl ?_
  refine v_aload_n X rfl dL_law_40 ?_
  refine v_iconst' X kc_0 dL_law_41 ?_
  refine v_sipush' X ks_201 dL_law_42 ?_
  refine v_callV (ci := 6) X mv_L_39 (mut_no (c_X6_load l γ (wset (w0 γ) 10 m0) 0 m0 z0 z0 0 0 3 0 0 hI0 (by omega) (nI 0) (nI 201)) (fun z9 => z9.2.1.2 (by decide)) (by rw [if_pos (by decide), if_neg (fun z9 => z9.2 (by decide))])) rfl rfl (rd_BT γ _) rfl ⟨Nat.le_of_ble_eq_true rfl, Nat.le_of_ble_eq_true rfl, Nat.le_of_ble_eq_true rfl, Nat.le_of_ble_eq_true rfl⟩ (Nat.le_of_ble_eq_true rfl) rfl dL_law_45 rfl (det_i ?_)
  refine v_sipush' X ks_m1002 dL_law_48 ?_
  refine v_icmp_ne_f (tgt := 135) X dL_law_51 (by decide) rfl ?_
  refine v_aload_n X rfl dL_law_54 ?_
  refine v_iconst' X kc_3 dL_law_55 ?_
  refine v_iconst' X kc_0 dL_law_56 ?_
  refine v_iconst' X kc_0 dL_law_57 ?_
  refine v_callV (ci := 6) X mv_L_42 (mut_no (c_X6_door l γ (wset (w0 γ) 10 m0) 0 m0 z0 z0 0 0 3 0 0 hI0 (by omega) (nI 3) (nI 0) (nI 0)) (fun z9 => z9.1.2 (by decide)) (if_neg (fun z9 => z9.2 (by decide)))) rfl rfl (rd_BT γ _) rfl ⟨Nat.le_of_ble_eq_true rfl, Nat.le_of_ble_eq_true rfl, Nat.le_of_ble_eq_true rfl, Nat.le_of_ble_eq_true rfl⟩ (Nat.le_of_ble_eq_true rfl) rfl dL_law_58 rfl (det_i ?_)
  refine v_sipush' X ks_m1002 dL_law_61 ?_
  refine v_icmp_ne_f (tgt := 135) X dL_law_64 (by decide) rfl ?_
  refine v_aload_n X rfl dL_law_67 ?_
  refine v_callV (ci := 6) X mv_L_87 (k_undo0 l γ (wset (w0 γ) 10 m0) 0 m0 z0 z0 0 3 0 0 hI0 (by omega)) rfl rfl (rd_BT γ _) rfl ⟨Nat.le_of_ble_eq_true rfl, Nat.le_of_ble_eq_true rfl, Nat.le_of_ble_eq_true rfl, Nat.le_of_ble_eq_true rfl⟩ (Nat.le_of_ble_eq_true rfl) rfl dL_law_68 rfl (det_i ?_)
  refine v_sipush' X ks_m1003 dL_law_71 ?_
  refine v_icmp_ne_f (tgt := 135) X dL_law_74 (by decide) rfl ?_
  refine v_aload_n X rfl dL_law_77 ?_
  refine v_iconst' X kc_0 dL_law_78 ?_
  refine v_callV (ci := 6) X mv_L_91 (c_X6_cancel l γ (wset (w0 γ) 10 m0) 0 m0 z0 z0 0 0 3 0 hI0) rfl rfl (rd_BT γ _) rfl ⟨Nat.le_of_ble_eq_true rfl, Nat.le_of_ble_eq_true rfl, Nat.le_of_ble_eq_true rfl, Nat.le_of_ble_eq_true rfl⟩ (Nat.le_of_ble_eq_true rfl) rfl dL_law_79 rfl (det_i ?_)
  refine v_sipush' X ks_m1002 dL_law_82 ?_
  refine v_icmp_ne_f (tgt := 135) X dL_law_85 (by decide) rfl ?_
  refine v_aload_n X rfl dL_law_88 ?_
  refine v_iconst' X kc_0 dL_law_89 ?_
  refine v_callV (ci := 6) X mv_L_54 (mut_no (c_X6_pass l γ (wset (w0 γ) 10 m0) 0 m0 z0 z0 0 0 3 0 0 hI0 (by omega) (nI 0)) (fun z9 => z9.1.1 (by decide)) (if_neg (fun z9 => z9.1 (by decide)))) rfl rfl (rd_BT γ _) rfl ⟨Nat.le_of_ble_eq_true rfl, Nat.le_of_ble_eq_true rfl, Nat.le_of_ble_eq_true rfl, Nat.le_of_ble_eq_true rfl⟩ (Nat.le_of_ble_eq_true rfl) rfl dL_law_90 rfl (det_i ?_)
  refine v_sipush' X ks_m1002 dL_law_93 ?_
  refine v_icmp_ne_f (tgt := 135) X dL_law_96 (by decide) rfl ?_
  refine v_aload_n X rfl dL_law_99 ?_
  refine v_iconst' X kc_0 dL_law_100 ?_
  refine v_iconst' X kc_0 dL_law_101 ?_
  refine v_iconst' X kc_2 dL_law_102 ?_
  refine v_callV (ci := 6) X mv_L_57 (c_X6_doorOf l γ (wset (w0 γ) 10 m0) 0 m0 z0 z0 0 0 3 0 0 hI0 (nI 0) (nI 0) (nI 2)) rfl rfl (rd_BT γ _) rfl ⟨Nat.le_of_ble_eq_true rfl, Nat.le_of_ble_eq_true rfl, Nat.le_of_ble_eq_true rfl, Nat.le_of_ble_eq_true rfl⟩ (Nat.le_of_ble_eq_true rfl) rfl dL_law_103 rfl (det_i ?_)
  rw [show s_door m0 3 (nI 0) (nI 0) (nI 2) = (-1002) from by unfold s_door; rw [if_pos (by decide), if_pos (by decide), if_neg (by decide)]]
  refine v_sipush' X ks_m1002 dL_law_106 ?_
  refine v_icmp_ne_f (tgt := 135) X dL_law_109 (by decide) rfl ?_
  refine v_aload_n X rfl dL_law_112 ?_
  refine v_iconst' X kc_0 dL_law_113 ?_
  refine v_iconst' X kc_5 dL_law_114 ?_
  refine v_callV (ci := 6) X mv_L_60 (c_X6_wagon l γ (wset (w0 γ) 10 m0) 0 m0 z0 z0 0 0 3 0 0 hI0 (nI 0) (nI 5)) rfl rfl (rd_BT γ _) rfl ⟨Nat.le_of_ble_eq_true rfl, Nat.le_of_ble_eq_true rfl, Nat.le_of_ble_eq_true rfl, Nat.le_of_ble_eq_true rfl⟩ (Nat.le_of_ble_eq_true rfl) rfl dL_law_115 rfl (det_i ?_)
  rw [show s_wag m0 3 (nI 0) (nI 5) = (-1002) from by unfold s_wag; rw [if_pos (by decide), if_neg (by decide)]]
  refine v_sipush' X ks_m1002 dL_law_118 ?_
  refine v_icmp_ne_f (tgt := 135) X dL_law_121 (by decide) rfl ?_
  refine v_aload_n X rfl dL_law_124 ?_
  refine v_aload_n X rfl dL_law_125 ?_
  refine v_aload_n X rfl dL_law_126 ?_
  refine v_aload X rfl dL_law_127 ?_
  refine v_callS X ms_L_94 (c_L_isTold l γ (w0 γ) 0 m0 z0 z0 0 0 3 0 hI0 (iv_0.hb (by decide))) rfl ⟨Nat.le_of_ble_eq_true rfl, Nat.le_of_ble_eq_true rfl, Nat.le_of_ble_eq_true rfl, Nat.le_of_ble_eq_true rfl⟩ (Nat.le_of_ble_eq_true rfl) rfl dL_law_129 rfl (det_i ?_)
  have hL0 := li_0 γ
  refine v_if_ne_t (tgt := 137) X dL_law_132 (by decide) (by decide) ?_
  refine v_aload_n X rfl dL_law_137 ?_
  refine v_iconst' X kc_0 dL_law_138 ?_
  refine v_callS X ms_L_98 (c_L_cell l γ _ 0 (by decide)) rfl ⟨Nat.le_of_ble_eq_true rfl, Nat.le_of_ble_eq_true rfl, Nat.le_of_ble_eq_true rfl, Nat.le_of_ble_eq_true rfl⟩ (Nat.le_of_ble_eq_true rfl) rfl dL_law_139 rfl (ce_i (fun x1 => ?_))
  refine v_istore X (Nat.le_of_ble_eq_true rfl) rfl dL_law_142 ?_
  refine v_aload_n X rfl dL_law_144 ?_
  refine v_aload_n X rfl dL_law_145 ?_
  refine v_iconst' X kc_0 dL_law_146 ?_
  refine v_iconst' X kc_1 dL_law_147 ?_
  refine v_iload X rfl dL_law_148 ?_
  refine v_sipush' X ks_200 dL_law_150 ?_
  refine v_callS X ms_L_101 (c_L_low l γ _ _ 200 (by omega) (by omega)) rfl ⟨(Nat.le_of_ble_eq_true rfl), (Nat.le_of_ble_eq_true rfl), (by show _ ≤ 600000; omega), (by show _ ≤ 7302250; omega)⟩ (Nat.le_of_ble_eq_true rfl) rfl dL_law_153 rfl (lo_i (fun j1 hj1 => ?_))
  refine v_iadd' X (nI_add _ _) dL_law_156 ?_
  refine v_callS X ms_L_104 (c_L_loads l γ (w0 γ) 0 m0 3 0 hL0 (by omega) 0 ((1 + j1)) (by omega) (by omega) (by omega)) rfl ⟨(Nat.le_of_ble_eq_true rfl), (Nat.le_of_ble_eq_true rfl), (by show _ ≤ 600000; omega), (by show _ ≤ 7302250; omega)⟩ (Nat.le_of_ble_eq_true rfl) rfl dL_law_157 rfl (sp_i (fun Wa Ma cna tma hLa hka => ?_))
  refine v_if_eq_f (tgt := 225) X dL_law_160 (by decide) (by decide) ?_
  refine v_aload_n X rfl dL_law_163 ?_
  refine v_aload_n X rfl dL_law_164 ?_
  refine v_iconst' X kc_1 dL_law_165 ?_
  refine v_iconst' X kc_1 dL_law_166 ?_
  refine v_iload X rfl dL_law_167 ?_
  refine v_bipush' X kb_8 dL_law_169 ?_
  refine v_ishr X dL_law_171 ?_
  refine v_bipush' X kb_120 dL_law_172 ?_
  refine v_callS X ms_L_101 (c_L_low l γ _ _ 120 (by omega) (by omega)) rfl ⟨(Nat.le_of_ble_eq_true rfl), (Nat.le_of_ble_eq_true rfl), (by show _ ≤ 600000; omega), (by show _ ≤ 7302250; omega)⟩ (Nat.le_of_ble_eq_true rfl) rfl dL_law_174 rfl (lo_i (fun j2 hj2 => ?_))
  refine v_iadd' X (nI_add _ _) dL_law_177 ?_
  refine v_callS X ms_L_104 (c_L_loads l γ Wa 1 Ma cna tma hLa (by omega) 1 ((1 + j2)) (by have := hka; omega) (by omega) (by omega)) rfl ⟨(Nat.le_of_ble_eq_true rfl), (Nat.le_of_ble_eq_true rfl), (by show _ ≤ 600000; omega), (by show _ ≤ 7302250; omega)⟩ (Nat.le_of_ble_eq_true rfl) rfl dL_law_178 rfl (sp_i (fun Wb Mb cnb tmb hLb hkb => ?_))
  refine v_if_eq_f (tgt := 225) X dL_law_181 (by decide) (by decide) ?_
  refine v_aload_n X rfl dL_law_184 ?_
  refine v_aload_n X rfl dL_law_185 ?_
  refine v_iconst' X kc_0 dL_law_186 ?_
  refine v_iconst' X kc_1 dL_law_187 ?_
  refine v_iload X rfl dL_law_188 ?_
  refine v_bipush' X kb_16 dL_law_190 ?_
  refine v_ishr X dL_law_192 ?_
  refine v_bipush' X kb_6 dL_law_193 ?_
  refine v_callS X ms_L_101 (c_L_low l γ _ _ 6 (by omega) (by omega)) rfl ⟨(Nat.le_of_ble_eq_true rfl), (Nat.le_of_ble_eq_true rfl), (by show _ ≤ 600000; omega), (by show _ ≤ 7302250; omega)⟩ (Nat.le_of_ble_eq_true rfl) rfl dL_law_195 rfl (lo_i (fun j3 hj3 => ?_))
  refine v_iadd' X (nI_add _ _) dL_law_198 ?_
  refine v_callS X ms_L_108 (c_L_sets l γ Wb 2 Mb cnb tmb hLb (by omega) 0 ((1 + j3)) (by omega) (hz_of (by omega))) rfl ⟨(Nat.le_of_ble_eq_true rfl), (Nat.le_of_ble_eq_true rfl), (by show _ ≤ 600000; omega), (by show _ ≤ 7302250; omega)⟩ (Nat.le_of_ble_eq_true rfl) rfl dL_law_199 rfl (sp_i (fun Wc Mc cnc tmc hLc hkc => ?_))
  refine v_if_eq_f (tgt := 225) X dL_law_202 (by decide) (by decide) ?_
  refine v_aload_n X rfl dL_law_205 ?_
  refine v_aload_n X rfl dL_law_206 ?_
  refine v_iconst' X kc_3 dL_law_207 ?_
  refine v_iload X rfl dL_law_208 ?_
  refine v_bipush' X kb_20 dL_law_210 ?_
  refine v_ishr X dL_law_212 ?_
  refine v_sipush' X ks_150 dL_law_213 ?_
  refine v_callS X ms_L_101 (c_L_low l γ _ _ 150 (by omega) (by omega)) rfl ⟨(Nat.le_of_ble_eq_true rfl), (Nat.le_of_ble_eq_true rfl), (by show _ ≤ 600000; omega), (by show _ ≤ 7302250; omega)⟩ (Nat.le_of_ble_eq_true rfl) rfl dL_law_216 rfl (lo_i (fun j4 hj4 => ?_))
  refine v_callS X ms_L_108 (c_L_sets l γ Wc 3 Mc cnc tmc hLc (by omega) 3 j4 (by omega) (hz_of (by omega))) rfl ⟨(Nat.le_of_ble_eq_true rfl), (Nat.le_of_ble_eq_true rfl), (by show _ ≤ 600000; omega), (by show _ ≤ 7302250; omega)⟩ (Nat.le_of_ble_eq_true rfl) rfl dL_law_219 rfl (sp_i (fun We Me cne tme hLe hke => ?_))
  refine v_if_ne_t (tgt := 227) X dL_law_222 (by decide) (by decide) ?_
  refine v_iconst' X kc_0 dL_law_227 ?_
  refine v_istore X (Nat.le_of_ble_eq_true rfl) rfl dL_law_228 ?_
  have lp230 : ∀ (n9 : Nat) (i : Nat) (W : Wd) (M : Nat → Int32) (cn tm : Nat), i ≤ 26 ∧ 27 ≤ i + n9 → LI γ W (4 + i) M cn tm → V p l e room_1 s m args below meth c γ Q (rdw γ (wset W 10 M)) (400 + 40 * i) (8000 + 600 * i) 230 [some (.ref (γ.2.2.2 5)), some (.ref γ.1), some (.ref (γ.1 + 86)), some (.ref (γ.1 + 87)), some (.ref (γ.1 + 88)), some (.int x1), some (.int (nI i)), none, none, none, none] [] := by
    intro n9
    induction n9 with
    | zero =>
      intro i W M cn tm hbd
      exact absurd hbd (by omega)
    | succ n9 ih =>
      intro i W M cn tm hbd hLI
      obtain ⟨⟨P, T, u, t, hI⟩, htm, hiv, h9⟩ := id hLI
      obtain ⟨hc, h1, h6⟩ := id hI.2.1.1.1
      have hB := hiv.hb h9
      refine v_iload X rfl dL_law_230 ?_
      refine v_bipush' X kb_26 dL_law_232 ?_
      refine v_icmp_ge_n (tgt := 644) X dL_law_234 (by decide) (by omega) (by omega) (fun d1 => ?_) (fun d1 => ?_)
      · have hid : i = 26 := by omega
        refine v_aload_n X rfl dL_law_644 ?_
        refine v_bipush' X kb_54 dL_law_645 ?_
        refine v_iald' X (v := (M (225))) (rd_W1 γ _ _) (54) rfl (by omega) (by decide) (w_at (i := 54) (j := 225) (by omega) rfl) dL_law_647 ?_
        refine v_aload_n X rfl dL_law_648 ?_
        refine v_callS X ms_L_72 (c_L_inWagons l γ W M) rfl ⟨(Nat.le_of_ble_eq_true rfl), (Nat.le_of_ble_eq_true rfl), (by show _ ≤ 600000; omega), (by show _ ≤ 7302250; omega)⟩ (Nat.le_of_ble_eq_true rfl) rfl dL_law_649 rfl (det_i ?_)
        refine v_aload_n X rfl dL_law_652 ?_
        refine v_iconst' X kc_0 dL_law_653 ?_
        refine v_callS X ms_L_68 (c_L_sum l γ W M hB 0 (by decide)) rfl ⟨(Nat.le_of_ble_eq_true rfl), (Nat.le_of_ble_eq_true rfl), (by show _ ≤ 600000; omega), (by show _ ≤ 7302250; omega)⟩ (Nat.le_of_ble_eq_true rfl) rfl dL_law_654 rfl (det_i ?_)
        refine v_iadd X dL_law_657 ?_
        refine v_aload_n X rfl dL_law_658 ?_
        refine v_iconst' X kc_1 dL_law_659 ?_
        refine v_callS X ms_L_68 (c_L_sum l γ W M hB 1 (by decide)) rfl ⟨(Nat.le_of_ble_eq_true rfl), (Nat.le_of_ble_eq_true rfl), (by show _ ≤ 600000; omega), (by show _ ≤ 7302250; omega)⟩ (Nat.le_of_ble_eq_true rfl) rfl dL_law_660 rfl (det_i ?_)
        refine v_iadd X dL_law_663 ?_
        refine v_aload_n X rfl dL_law_664 ?_
        refine v_iconst' X kc_2 dL_law_665 ?_
        refine v_callS X ms_L_68 (c_L_sum l γ W M hB 2 (by decide)) rfl ⟨(Nat.le_of_ble_eq_true rfl), (Nat.le_of_ble_eq_true rfl), (by show _ ≤ 600000; omega), (by show _ ≤ 7302250; omega)⟩ (Nat.le_of_ble_eq_true rfl) rfl dL_law_666 rfl (det_i ?_)
        refine v_iadd X dL_law_669 ?_
        refine v_aload_n X rfl dL_law_670 ?_
        refine v_bipush' X kb_55 dL_law_671 ?_
        refine v_iald' X (v := (M (226))) (rd_W1 γ _ _) (55) rfl (by omega) (by decide) (w_at (i := 55) (j := 226) (by omega) rfl) dL_law_673 ?_
        refine v_iadd X dL_law_674 ?_
        refine v_aload_n X rfl dL_law_675 ?_
        refine v_bipush' X kb_56 dL_law_676 ?_
        refine v_iald' X (v := (M (227))) (rd_W1 γ _ _) (56) rfl (by omega) (by decide) (w_at (i := 56) (j := 227) (by omega) rfl) dL_law_678 ?_
        refine v_iadd X dL_law_679 ?_
        refine v_icmp_ne_f (tgt := 699) X dL_law_680 (by decide) (all_eq hiv) ?_
        refine v_aload_n X rfl dL_law_683 ?_
        refine v_bipush' X kb_19 dL_law_684 ?_
        refine v_callV (ci := 6) X mv_L_65 (c_X6_count l γ (wset W 10 M) _ M P T u t cn 0 tm hI (nI 19)) rfl rfl (rd_BT γ _) rfl ⟨(Nat.le_of_ble_eq_true rfl), (Nat.le_of_ble_eq_true rfl), (by show _ ≤ 600000; omega), (by show _ ≤ 7302250; omega)⟩ (Nat.le_of_ble_eq_true rfl) rfl dL_law_686 rfl (det_i ?_)
        rw [sc_19]
        refine v_sipush' X ks_m1002 dL_law_689 ?_
        refine v_icmp_ne_f (tgt := 699) X dL_law_692 (by decide) rfl ?_
        refine v_iconst' X kc_1 dL_law_695 ?_
        refine v_goto (tgt := 700) X dL_law_696 (by decide) ?_
        exact hend _ _ _ _ (by omega) (by omega)
      · refine v_aload_n X rfl dL_law_237 ?_
        refine v_iconst' X kc_1 dL_law_238 ?_
        refine v_iload X rfl dL_law_239 ?_
        refine v_iadd' X (nI_add _ _) dL_law_241 ?_
        refine v_callS X ms_L_98 (c_L_cell l γ _ (1 + i) (by omega)) rfl ⟨(Nat.le_of_ble_eq_true rfl), (Nat.le_of_ble_eq_true rfl), (by show _ ≤ 600000; omega), (by show _ ≤ 7302250; omega)⟩ (Nat.le_of_ble_eq_true rfl) rfl dL_law_242 rfl (ce_i (fun y1 => ?_))
        refine v_istore X (Nat.le_of_ble_eq_true rfl) rfl dL_law_245 ?_
        refine v_iload X rfl dL_law_247 ?_
        refine v_iconst' X kc_4 dL_law_249 ?_
        refine v_ishr X dL_law_250 ?_
        refine v_aload_n X rfl dL_law_251 ?_
        refine v_bipush' X kb_48 dL_law_252 ?_
        refine v_iald' X (v := nI cn) (rd_W1 γ _ _) (48) rfl (by omega) (by decide) ((w_at (i := 48) (j := 218) (by omega) rfl).trans hc) dL_law_254 ?_
        refine v_callS X ms_L_101 (c_L_low l γ _ _ cn (by omega) (by omega)) rfl ⟨(Nat.le_of_ble_eq_true rfl), (Nat.le_of_ble_eq_true rfl), (by show _ ≤ 600000; omega), (by show _ ≤ 7302250; omega)⟩ (Nat.le_of_ble_eq_true rfl) rfl dL_law_255 rfl (lo_i (fun w1 hw1 => ?_))
        refine v_istore X (Nat.le_of_ble_eq_true rfl) rfl dL_law_258 ?_
        refine v_iload X rfl dL_law_260 ?_
        refine v_bipush' X kb_13 dL_law_262 ?_
        refine v_callS X ms_L_101 (c_L_low l γ _ _ 13 (by omega) (by omega)) rfl ⟨(Nat.le_of_ble_eq_true rfl), (Nat.le_of_ble_eq_true rfl), (by show _ ≤ 600000; omega), (by show _ ≤ 7302250; omega)⟩ (Nat.le_of_ble_eq_true rfl) rfl dL_law_264 rfl (lo_i (fun sw0 hsw0 => ?_))
        generalize nI sw0 = sw
        by_cases hsw : ¬ sw < nI 0 ∧ ¬ nI 8 < sw
        · obtain ⟨jj, hjj, rfl⟩ := in_nat (by decide) hsw
          rcases (by omega : jj = 0 ∨ jj = 1 ∨ jj = 2 ∨ jj = 3 ∨ jj = 4 ∨ jj = 5 ∨ jj = 6 ∨ jj = 7 ∨ jj = 8) with rfl | rfl | rfl | rfl | rfl | rfl | rfl | rfl | rfl
          · refine v_tableIn (tgt := 316) (off := 49) X dL_law_267 (by decide) (by decide) (by decide) (by decide) ?_
            refine v_aload_n X rfl dL_law_316 ?_
            refine v_aload_n X rfl dL_law_317 ?_
            refine v_iload X rfl dL_law_318 ?_
            refine v_iconst' X kc_1 dL_law_320 ?_
            refine v_iload X rfl dL_law_321 ?_
            refine v_bipush' X kb_7 dL_law_323 ?_
            refine v_ishr X dL_law_325 ?_
            refine v_bipush' X kb_90 dL_law_326 ?_
            refine v_callS X ms_L_101 (c_L_low l γ _ _ 90 (by omega) (by omega)) rfl ⟨(Nat.le_of_ble_eq_true rfl), (Nat.le_of_ble_eq_true rfl), (by show _ ≤ 600000; omega), (by show _ ≤ 7302250; omega)⟩ (Nat.le_of_ble_eq_true rfl) rfl dL_law_328 rfl (lo_i (fun j1 hj1 => ?_))
            refine v_iadd' X (nI_add _ _) dL_law_331 ?_
            refine v_callS X ms_L_104 (c_L_loads l γ W (4 + i) M cn tm hLI (by omega) w1 ((1 + j1)) (by omega) (by omega) (by omega)) rfl ⟨(Nat.le_of_ble_eq_true rfl), (Nat.le_of_ble_eq_true rfl), (by show _ ≤ 600000; omega), (by show _ ≤ 7302250; omega)⟩ (Nat.le_of_ble_eq_true rfl) rfl dL_law_332 rfl (sp_i (fun W2 M2 cn2 tm2 hL2 hk2 => ?_))
            refine v_istore X (Nat.le_of_ble_eq_true rfl) rfl dL_law_335 ?_
            refine v_goto (tgt := 620) X dL_law_337 (by decide) ?_
            refine v_iload X rfl dL_law_620 ?_
            refine v_if_eq_f (tgt := 636) X dL_law_622 (by decide) (by decide) ?_
            refine v_aload_n X rfl dL_law_625 ?_
            refine v_aload_n X rfl dL_law_626 ?_
            refine v_aload_n X rfl dL_law_627 ?_
            refine v_aload X rfl dL_law_628 ?_
            obtain ⟨⟨P2, T2, u2, t2, hI2⟩, -, hiv2, h92⟩ := id hL2
            refine v_callS X ms_L_94 (c_L_isTold l γ W2 _ M2 P2 T2 u2 t2 cn2 tm2 hI2 (hiv2.hb h92)) rfl ⟨(Nat.le_of_ble_eq_true rfl), (Nat.le_of_ble_eq_true rfl), (by show _ ≤ 600000; omega), (by show _ ≤ 7302250; omega)⟩ (Nat.le_of_ble_eq_true rfl) rfl dL_law_630 rfl (det_i ?_)
            refine v_if_ne_t (tgt := 638) X dL_law_633 (by decide) (by decide) ?_
            refine v_iinc' X rfl rfl (nI_inc _) dL_law_638 ?_
            refine v_goto (tgt := 230) X dL_law_641 (by decide) ?_
            exact v_Ln (v_widen (by omega) (by omega) (ih (i + 1) W2 M2 cn2 tm2 ⟨by omega, by omega⟩ hL2)) ⟨Or.inr rfl, Or.inr rfl, Or.inr rfl, Or.inr rfl, Or.inr rfl, Or.inr rfl, Or.inr rfl, Or.inl rfl, Or.inl rfl, Or.inl rfl, Or.inl rfl, trivial⟩
          · refine v_tableIn (tgt := 340) (off := 73) X dL_law_267 (by decide) (by decide) (by decide) (by decide) ?_
            refine v_iload X rfl dL_law_340 ?_
            refine v_bipush' X kb_7 dL_law_342 ?_
            refine v_ishr X dL_law_344 ?_
            refine v_iconst' X kc_5 dL_law_345 ?_
            refine v_callS X ms_L_101 (c_L_low l γ _ _ 5 (by omega) (by omega)) rfl ⟨(Nat.le_of_ble_eq_true rfl), (Nat.le_of_ble_eq_true rfl), (by show _ ≤ 600000; omega), (by show _ ≤ 7302250; omega)⟩ (Nat.le_of_ble_eq_true rfl) rfl dL_law_346 rfl (lo_i (fun j1 hj1 => ?_))
            refine v_if_gt_n (tgt := 372) X dL_law_349 (by decide) (by omega) (fun g1 => ?_) (fun g1 => ?_)
            · obtain ⟨W2, M2, cn2, tm2, hW2, hL2⟩ : ∃ (W2 : Wd) (M2 : Nat → Int32) (cn2 tm2 : Nat), rdw γ (wset W 10 M) = rdw γ (wset W2 10 M2) ∧ LI γ W2 (4 + i + 1) M2 cn2 tm2 := ⟨W, M, cn, tm, rfl, hLI.mono⟩
              refine v_eqh hW2 ?_
              refine v_iconst' X kc_1 dL_law_372 ?_
              refine v_goto (tgt := 377) X dL_law_373 (by decide) ?_
              refine v_istore X (Nat.le_of_ble_eq_true rfl) rfl dL_law_377 ?_
              refine v_goto (tgt := 620) X dL_law_379 (by decide) ?_
              refine v_iload X rfl dL_law_620 ?_
              refine v_if_eq_f (tgt := 636) X dL_law_622 (by decide) (by decide) ?_
              refine v_aload_n X rfl dL_law_625 ?_
              refine v_aload_n X rfl dL_law_626 ?_
              refine v_aload_n X rfl dL_law_627 ?_
              refine v_aload X rfl dL_law_628 ?_
              obtain ⟨⟨P2, T2, u2, t2, hI2⟩, -, hiv2, h92⟩ := id hL2
              refine v_callS X ms_L_94 (c_L_isTold l γ W2 _ M2 P2 T2 u2 t2 cn2 tm2 hI2 (hiv2.hb h92)) rfl ⟨(Nat.le_of_ble_eq_true rfl), (Nat.le_of_ble_eq_true rfl), (by show _ ≤ 600000; omega), (by show _ ≤ 7302250; omega)⟩ (Nat.le_of_ble_eq_true rfl) rfl dL_law_630 rfl (det_i ?_)
              refine v_if_ne_t (tgt := 638) X dL_law_633 (by decide) (by decide) ?_
              refine v_iinc' X rfl rfl (nI_inc _) dL_law_638 ?_
              refine v_goto (tgt := 230) X dL_law_641 (by decide) ?_
              exact v_Ln (v_widen (by omega) (by omega) (ih (i + 1) W2 M2 cn2 tm2 ⟨by omega, by omega⟩ hL2)) ⟨Or.inr rfl, Or.inr rfl, Or.inr rfl, Or.inr rfl, Or.inr rfl, Or.inr rfl, Or.inr rfl, Or.inl rfl, Or.inl rfl, Or.inl rfl, Or.inl rfl, trivial⟩
            · refine v_aload_n X rfl dL_law_352 ?_
              refine v_aload_n X rfl dL_law_353 ?_
              refine v_iconst' X kc_1 dL_law_354 ?_
              refine v_iload X rfl dL_law_355 ?_
              refine v_bipush' X kb_10 dL_law_357 ?_
              refine v_ishr X dL_law_359 ?_
              refine v_bipush' X kb_6 dL_law_360 ?_
              refine v_callS X ms_L_101 (c_L_low l γ _ _ 6 (by omega) (by omega)) rfl ⟨(Nat.le_of_ble_eq_true rfl), (Nat.le_of_ble_eq_true rfl), (by show _ ≤ 600000; omega), (by show _ ≤ 7302250; omega)⟩ (Nat.le_of_ble_eq_true rfl) rfl dL_law_362 rfl (lo_i (fun j2 hj2 => ?_))
              refine v_iadd' X (nI_add _ _) dL_law_365 ?_
              refine v_callS X ms_L_111 (c_L_setsTrain l γ W (4 + i) M cn tm hLI (by omega) ((1 + j2)) (by omega) (by omega)) rfl ⟨(Nat.le_of_ble_eq_true rfl), (Nat.le_of_ble_eq_true rfl), (by show _ ≤ 600000; omega), (by show _ ≤ 7302250; omega)⟩ (Nat.le_of_ble_eq_true rfl) rfl dL_law_366 rfl (sp_i (fun W2 M2 cn2 tm2 hL2 hk2 => ?_))
              refine v_if_eq_f (tgt := 376) X dL_law_369 (by decide) (by decide) ?_
              refine v_iconst' X kc_1 dL_law_372 ?_
              refine v_goto (tgt := 377) X dL_law_373 (by decide) ?_
              refine v_istore X (Nat.le_of_ble_eq_true rfl) rfl dL_law_377 ?_
              refine v_goto (tgt := 620) X dL_law_379 (by decide) ?_
              refine v_iload X rfl dL_law_620 ?_
              refine v_if_eq_f (tgt := 636) X dL_law_622 (by decide) (by decide) ?_
              refine v_aload_n X rfl dL_law_625 ?_
              refine v_aload_n X rfl dL_law_626 ?_
              refine v_aload_n X rfl dL_law_627 ?_
              refine v_aload X rfl dL_law_628 ?_
              obtain ⟨⟨P2, T2, u2, t2, hI2⟩, -, hiv2, h92⟩ := id hL2
              refine v_callS X ms_L_94 (c_L_isTold l γ W2 _ M2 P2 T2 u2 t2 cn2 tm2 hI2 (hiv2.hb h92)) rfl ⟨(Nat.le_of_ble_eq_true rfl), (Nat.le_of_ble_eq_true rfl), (by show _ ≤ 600000; omega), (by show _ ≤ 7302250; omega)⟩ (Nat.le_of_ble_eq_true rfl) rfl dL_law_630 rfl (det_i ?_)
              refine v_if_ne_t (tgt := 638) X dL_law_633 (by decide) (by decide) ?_
              refine v_iinc' X rfl rfl (nI_inc _) dL_law_638 ?_
              refine v_goto (tgt := 230) X dL_law_641 (by decide) ?_
              exact v_Ln (v_widen (by omega) (by omega) (ih (i + 1) W2 M2 cn2 tm2 ⟨by omega, by omega⟩ hL2)) ⟨Or.inr rfl, Or.inr rfl, Or.inr rfl, Or.inr rfl, Or.inr rfl, Or.inr rfl, Or.inr rfl, Or.inl rfl, Or.inl rfl, Or.inl rfl, Or.inl rfl, trivial⟩
          · refine v_tableIn (tgt := 382) (off := 115) X dL_law_267 (by decide) (by decide) (by decide) (by decide) ?_
            refine v_aload_n X rfl dL_law_382 ?_
            refine v_aload_n X rfl dL_law_383 ?_
            refine v_aload_n X rfl dL_law_384 ?_
            refine v_iload X rfl dL_law_385 ?_
            refine v_iconst' X kc_4 dL_law_387 ?_
            refine v_ishr X dL_law_388 ?_
            refine v_bipush' X kb_40 dL_law_389 ?_
            refine v_callS X ms_L_101 (c_L_low l γ _ _ 40 (by omega) (by omega)) rfl ⟨(Nat.le_of_ble_eq_true rfl), (Nat.le_of_ble_eq_true rfl), (by show _ ≤ 600000; omega), (by show _ ≤ 7302250; omega)⟩ (Nat.le_of_ble_eq_true rfl) rfl dL_law_391 rfl (lo_i (fun j1 hj1 => ?_))
            refine v_iload X rfl dL_law_394 ?_
            refine v_bipush' X kb_10 dL_law_396 ?_
            refine v_ishr X dL_law_398 ?_
            refine v_iconst' X kc_3 dL_law_399 ?_
            refine v_callS X ms_L_101 (c_L_low l γ _ _ 3 (by omega) (by omega)) rfl ⟨(Nat.le_of_ble_eq_true rfl), (Nat.le_of_ble_eq_true rfl), (by show _ ≤ 600000; omega), (by show _ ≤ 7302250; omega)⟩ (Nat.le_of_ble_eq_true rfl) rfl dL_law_400 rfl (lo_i (fun j2 hj2 => ?_))
            refine v_iconst' X kc_1 dL_law_403 ?_
            refine v_iload X rfl dL_law_404 ?_
            refine v_bipush' X kb_12 dL_law_406 ?_
            refine v_ishr X dL_law_408 ?_
            refine v_bipush' X kb_60 dL_law_409 ?_
            refine v_callS X ms_L_101 (c_L_low l γ _ _ 60 (by omega) (by omega)) rfl ⟨(Nat.le_of_ble_eq_true rfl), (Nat.le_of_ble_eq_true rfl), (by show _ ≤ 600000; omega), (by show _ ≤ 7302250; omega)⟩ (Nat.le_of_ble_eq_true rfl) rfl dL_law_411 rfl (lo_i (fun j3 hj3 => ?_))
            refine v_iadd' X (nI_add _ _) dL_law_414 ?_
            refine v_callS X ms_L_115 (c_L_scrapes l γ W (4 + i) M cn tm hLI (by omega) j1 j2 ((1 + j3)) (by omega) (by omega) (by omega) (by omega)) rfl ⟨(Nat.le_of_ble_eq_true rfl), (Nat.le_of_ble_eq_true rfl), (by show _ ≤ 600000; omega), (by show _ ≤ 7302250; omega)⟩ (Nat.le_of_ble_eq_true rfl) rfl dL_law_415 rfl (sp_i (fun W2 M2 cn2 tm2 hL2 hk2 => ?_))
            refine v_istore X (Nat.le_of_ble_eq_true rfl) rfl dL_law_418 ?_
            refine v_goto (tgt := 620) X dL_law_420 (by decide) ?_
            refine v_iload X rfl dL_law_620 ?_
            refine v_if_eq_f (tgt := 636) X dL_law_622 (by decide) (by decide) ?_
            refine v_aload_n X rfl dL_law_625 ?_
            refine v_aload_n X rfl dL_law_626 ?_
            refine v_aload_n X rfl dL_law_627 ?_
            refine v_aload X rfl dL_law_628 ?_
            obtain ⟨⟨P2, T2, u2, t2, hI2⟩, -, hiv2, h92⟩ := id hL2
            refine v_callS X ms_L_94 (c_L_isTold l γ W2 _ M2 P2 T2 u2 t2 cn2 tm2 hI2 (hiv2.hb h92)) rfl ⟨(Nat.le_of_ble_eq_true rfl), (Nat.le_of_ble_eq_true rfl), (by show _ ≤ 600000; omega), (by show _ ≤ 7302250; omega)⟩ (Nat.le_of_ble_eq_true rfl) rfl dL_law_630 rfl (det_i ?_)
            refine v_if_ne_t (tgt := 638) X dL_law_633 (by decide) (by decide) ?_
            refine v_iinc' X rfl rfl (nI_inc _) dL_law_638 ?_
            refine v_goto (tgt := 230) X dL_law_641 (by decide) ?_
            exact v_Ln (v_widen (by omega) (by omega) (ih (i + 1) W2 M2 cn2 tm2 ⟨by omega, by omega⟩ hL2)) ⟨Or.inr rfl, Or.inr rfl, Or.inr rfl, Or.inr rfl, Or.inr rfl, Or.inr rfl, Or.inr rfl, Or.inl rfl, Or.inl rfl, Or.inl rfl, Or.inl rfl, trivial⟩
          · refine v_tableIn (tgt := 423) (off := 156) X dL_law_267 (by decide) (by decide) (by decide) (by decide) ?_
            refine v_iload X rfl dL_law_423 ?_
            refine v_iconst' X kc_4 dL_law_425 ?_
            refine v_ishr X dL_law_426 ?_
            refine v_iconst' X kc_5 dL_law_427 ?_
            refine v_callS X ms_L_101 (c_L_low l γ _ _ 5 (by omega) (by omega)) rfl ⟨(Nat.le_of_ble_eq_true rfl), (Nat.le_of_ble_eq_true rfl), (by show _ ≤ 600000; omega), (by show _ ≤ 7302250; omega)⟩ (Nat.le_of_ble_eq_true rfl) rfl dL_law_428 rfl (lo_i (fun j1 hj1 => ?_))
            refine v_istore X (Nat.le_of_ble_eq_true rfl) rfl dL_law_431 ?_
            refine v_aload_n X rfl dL_law_433 ?_
            refine v_aload_n X rfl dL_law_434 ?_
            refine v_iload X rfl dL_law_435 ?_
            refine v_iload X rfl dL_law_437 ?_
            refine v_if_ne_n (tgt := 457) X dL_law_439 (by decide) (by omega) (fun g1 => ?_) (fun g1 => ?_)
            · refine v_iload X rfl dL_law_457 ?_
              refine v_iconst' X kc_1 dL_law_459 ?_
              refine v_icmp_ne_n (tgt := 478) X dL_law_460 (by decide) (by omega) (by omega) (fun g2 => ?_) (fun g2 => ?_)
              · refine v_iload X rfl dL_law_478 ?_
                refine v_iconst' X kc_2 dL_law_480 ?_
                refine v_icmp_ne_n (tgt := 497) X dL_law_481 (by decide) (by omega) (by omega) (fun g3 => ?_) (fun g3 => ?_)
                · refine v_iload X rfl dL_law_497 ?_
                  refine v_iconst' X kc_3 dL_law_499 ?_
                  refine v_icmp_ne_n (tgt := 517) X dL_law_500 (by decide) (by omega) (by omega) (fun g4 => ?_) (fun g4 => ?_)
                  · refine v_iload X rfl dL_law_517 ?_
                    refine v_bipush' X kb_7 dL_law_519 ?_
                    refine v_ishr X dL_law_521 ?_
                    refine v_bipush' X kb_61 dL_law_522 ?_
                    refine v_callS X ms_L_101 (c_L_low l γ _ _ 61 (by omega) (by omega)) rfl ⟨(Nat.le_of_ble_eq_true rfl), (Nat.le_of_ble_eq_true rfl), (by show _ ≤ 600000; omega), (by show _ ≤ 7302250; omega)⟩ (Nat.le_of_ble_eq_true rfl) rfl dL_law_524 rfl (lo_i (fun j2 hj2 => ?_))
                    refine v_callS X ms_L_108 (c_L_sets l γ W (4 + i) M cn tm hLI (by omega) j1 j2 (by omega) (hz_of (by omega))) rfl ⟨(Nat.le_of_ble_eq_true rfl), (Nat.le_of_ble_eq_true rfl), (by show _ ≤ 600000; omega), (by show _ ≤ 7302250; omega)⟩ (Nat.le_of_ble_eq_true rfl) rfl dL_law_527 rfl (sp_i (fun W2 M2 cn2 tm2 hL2 hk2 => ?_))
                    refine v_istore X (Nat.le_of_ble_eq_true rfl) rfl dL_law_530 ?_
                    refine v_goto (tgt := 620) X dL_law_532 (by decide) ?_
                    refine v_iload X rfl dL_law_620 ?_
                    refine v_if_eq_f (tgt := 636) X dL_law_622 (by decide) (by decide) ?_
                    refine v_aload_n X rfl dL_law_625 ?_
                    refine v_aload_n X rfl dL_law_626 ?_
                    refine v_aload_n X rfl dL_law_627 ?_
                    refine v_aload X rfl dL_law_628 ?_
                    obtain ⟨⟨P2, T2, u2, t2, hI2⟩, -, hiv2, h92⟩ := id hL2
                    refine v_callS X ms_L_94 (c_L_isTold l γ W2 _ M2 P2 T2 u2 t2 cn2 tm2 hI2 (hiv2.hb h92)) rfl ⟨(Nat.le_of_ble_eq_true rfl), (Nat.le_of_ble_eq_true rfl), (by show _ ≤ 600000; omega), (by show _ ≤ 7302250; omega)⟩ (Nat.le_of_ble_eq_true rfl) rfl dL_law_630 rfl (det_i ?_)
                    refine v_if_ne_t (tgt := 638) X dL_law_633 (by decide) (by decide) ?_
                    refine v_iinc' X rfl rfl (nI_inc _) dL_law_638 ?_
                    refine v_goto (tgt := 230) X dL_law_641 (by decide) ?_
                    exact v_Ln (v_widen (by omega) (by omega) (ih (i + 1) W2 M2 cn2 tm2 ⟨by omega, by omega⟩ hL2)) ⟨Or.inr rfl, Or.inr rfl, Or.inr rfl, Or.inr rfl, Or.inr rfl, Or.inr rfl, Or.inr rfl, Or.inl rfl, Or.inl rfl, Or.inl rfl, Or.inl rfl, trivial⟩
                  · refine v_iload X rfl dL_law_503 ?_
                    refine v_bipush' X kb_7 dL_law_505 ?_
                    refine v_ishr X dL_law_507 ?_
                    refine v_sipush' X ks_201 dL_law_508 ?_
                    refine v_callS X ms_L_101 (c_L_low l γ _ _ 201 (by omega) (by omega)) rfl ⟨(Nat.le_of_ble_eq_true rfl), (Nat.le_of_ble_eq_true rfl), (by show _ ≤ 600000; omega), (by show _ ≤ 7302250; omega)⟩ (Nat.le_of_ble_eq_true rfl) rfl dL_law_511 rfl (lo_i (fun j2 hj2 => ?_))
                    refine v_goto (tgt := 527) X dL_law_514 (by decide) ?_
                    refine v_callS X ms_L_108 (c_L_sets l γ W (4 + i) M cn tm hLI (by omega) j1 j2 (by omega) (hz_of (by omega))) rfl ⟨(Nat.le_of_ble_eq_true rfl), (Nat.le_of_ble_eq_true rfl), (by show _ ≤ 600000; omega), (by show _ ≤ 7302250; omega)⟩ (Nat.le_of_ble_eq_true rfl) rfl dL_law_527 rfl (sp_i (fun W2 M2 cn2 tm2 hL2 hk2 => ?_))
                    refine v_istore X (Nat.le_of_ble_eq_true rfl) rfl dL_law_530 ?_
                    refine v_goto (tgt := 620) X dL_law_532 (by decide) ?_
                    refine v_iload X rfl dL_law_620 ?_
                    refine v_if_eq_f (tgt := 636) X dL_law_622 (by decide) (by decide) ?_
                    refine v_aload_n X rfl dL_law_625 ?_
                    refine v_aload_n X rfl dL_law_626 ?_
                    refine v_aload_n X rfl dL_law_627 ?_
                    refine v_aload X rfl dL_law_628 ?_
                    obtain ⟨⟨P2, T2, u2, t2, hI2⟩, -, hiv2, h92⟩ := id hL2
                    refine v_callS X ms_L_94 (c_L_isTold l γ W2 _ M2 P2 T2 u2 t2 cn2 tm2 hI2 (hiv2.hb h92)) rfl ⟨(Nat.le_of_ble_eq_true rfl), (Nat.le_of_ble_eq_true rfl), (by show _ ≤ 600000; omega), (by show _ ≤ 7302250; omega)⟩ (Nat.le_of_ble_eq_true rfl) rfl dL_law_630 rfl (det_i ?_)
                    refine v_if_ne_t (tgt := 638) X dL_law_633 (by decide) (by decide) ?_
                    refine v_iinc' X rfl rfl (nI_inc _) dL_law_638 ?_
                    refine v_goto (tgt := 230) X dL_law_641 (by decide) ?_
                    exact v_Ln (v_widen (by omega) (by omega) (ih (i + 1) W2 M2 cn2 tm2 ⟨by omega, by omega⟩ hL2)) ⟨Or.inr rfl, Or.inr rfl, Or.inr rfl, Or.inr rfl, Or.inr rfl, Or.inr rfl, Or.inr rfl, Or.inl rfl, Or.inl rfl, Or.inl rfl, Or.inl rfl, trivial⟩
                · refine v_iload X rfl dL_law_484 ?_
                  refine v_bipush' X kb_7 dL_law_486 ?_
                  refine v_ishr X dL_law_488 ?_
                  refine v_bipush' X kb_10 dL_law_489 ?_
                  refine v_callS X ms_L_101 (c_L_low l γ _ _ 10 (by omega) (by omega)) rfl ⟨(Nat.le_of_ble_eq_true rfl), (Nat.le_of_ble_eq_true rfl), (by show _ ≤ 600000; omega), (by show _ ≤ 7302250; omega)⟩ (Nat.le_of_ble_eq_true rfl) rfl dL_law_491 rfl (lo_i (fun j2 hj2 => ?_))
                  refine v_goto (tgt := 527) X dL_law_494 (by decide) ?_
                  refine v_callS X ms_L_108 (c_L_sets l γ W (4 + i) M cn tm hLI (by omega) j1 j2 (by omega) (hz_of (by omega))) rfl ⟨(Nat.le_of_ble_eq_true rfl), (Nat.le_of_ble_eq_true rfl), (by show _ ≤ 600000; omega), (by show _ ≤ 7302250; omega)⟩ (Nat.le_of_ble_eq_true rfl) rfl dL_law_527 rfl (sp_i (fun W2 M2 cn2 tm2 hL2 hk2 => ?_))
                  refine v_istore X (Nat.le_of_ble_eq_true rfl) rfl dL_law_530 ?_
                  refine v_goto (tgt := 620) X dL_law_532 (by decide) ?_
                  refine v_iload X rfl dL_law_620 ?_
                  refine v_if_eq_f (tgt := 636) X dL_law_622 (by decide) (by decide) ?_
                  refine v_aload_n X rfl dL_law_625 ?_
                  refine v_aload_n X rfl dL_law_626 ?_
                  refine v_aload_n X rfl dL_law_627 ?_
                  refine v_aload X rfl dL_law_628 ?_
                  obtain ⟨⟨P2, T2, u2, t2, hI2⟩, -, hiv2, h92⟩ := id hL2
                  refine v_callS X ms_L_94 (c_L_isTold l γ W2 _ M2 P2 T2 u2 t2 cn2 tm2 hI2 (hiv2.hb h92)) rfl ⟨(Nat.le_of_ble_eq_true rfl), (Nat.le_of_ble_eq_true rfl), (by show _ ≤ 600000; omega), (by show _ ≤ 7302250; omega)⟩ (Nat.le_of_ble_eq_true rfl) rfl dL_law_630 rfl (det_i ?_)
                  refine v_if_ne_t (tgt := 638) X dL_law_633 (by decide) (by decide) ?_
                  refine v_iinc' X rfl rfl (nI_inc _) dL_law_638 ?_
                  refine v_goto (tgt := 230) X dL_law_641 (by decide) ?_
                  exact v_Ln (v_widen (by omega) (by omega) (ih (i + 1) W2 M2 cn2 tm2 ⟨by omega, by omega⟩ hL2)) ⟨Or.inr rfl, Or.inr rfl, Or.inr rfl, Or.inr rfl, Or.inr rfl, Or.inr rfl, Or.inr rfl, Or.inl rfl, Or.inl rfl, Or.inl rfl, Or.inl rfl, trivial⟩
              · refine v_iconst' X kc_1 dL_law_463 ?_
                refine v_iload X rfl dL_law_464 ?_
                refine v_bipush' X kb_7 dL_law_466 ?_
                refine v_ishr X dL_law_468 ?_
                refine v_bipush' X kb_60 dL_law_469 ?_
                refine v_callS X ms_L_101 (c_L_low l γ _ _ 60 (by omega) (by omega)) rfl ⟨(Nat.le_of_ble_eq_true rfl), (Nat.le_of_ble_eq_true rfl), (by show _ ≤ 600000; omega), (by show _ ≤ 7302250; omega)⟩ (Nat.le_of_ble_eq_true rfl) rfl dL_law_471 rfl (lo_i (fun j2 hj2 => ?_))
                refine v_iadd' X (nI_add _ _) dL_law_474 ?_
                refine v_goto (tgt := 527) X dL_law_475 (by decide) ?_
                refine v_callS X ms_L_108 (c_L_sets l γ W (4 + i) M cn tm hLI (by omega) j1 ((1 + j2)) (by omega) (hz_of (by omega))) rfl ⟨(Nat.le_of_ble_eq_true rfl), (Nat.le_of_ble_eq_true rfl), (by show _ ≤ 600000; omega), (by show _ ≤ 7302250; omega)⟩ (Nat.le_of_ble_eq_true rfl) rfl dL_law_527 rfl (sp_i (fun W2 M2 cn2 tm2 hL2 hk2 => ?_))
                refine v_istore X (Nat.le_of_ble_eq_true rfl) rfl dL_law_530 ?_
                refine v_goto (tgt := 620) X dL_law_532 (by decide) ?_
                refine v_iload X rfl dL_law_620 ?_
                refine v_if_eq_f (tgt := 636) X dL_law_622 (by decide) (by decide) ?_
                refine v_aload_n X rfl dL_law_625 ?_
                refine v_aload_n X rfl dL_law_626 ?_
                refine v_aload_n X rfl dL_law_627 ?_
                refine v_aload X rfl dL_law_628 ?_
                obtain ⟨⟨P2, T2, u2, t2, hI2⟩, -, hiv2, h92⟩ := id hL2
                refine v_callS X ms_L_94 (c_L_isTold l γ W2 _ M2 P2 T2 u2 t2 cn2 tm2 hI2 (hiv2.hb h92)) rfl ⟨(Nat.le_of_ble_eq_true rfl), (Nat.le_of_ble_eq_true rfl), (by show _ ≤ 600000; omega), (by show _ ≤ 7302250; omega)⟩ (Nat.le_of_ble_eq_true rfl) rfl dL_law_630 rfl (det_i ?_)
                refine v_if_ne_t (tgt := 638) X dL_law_633 (by decide) (by decide) ?_
                refine v_iinc' X rfl rfl (nI_inc _) dL_law_638 ?_
                refine v_goto (tgt := 230) X dL_law_641 (by decide) ?_
                exact v_Ln (v_widen (by omega) (by omega) (ih (i + 1) W2 M2 cn2 tm2 ⟨by omega, by omega⟩ hL2)) ⟨Or.inr rfl, Or.inr rfl, Or.inr rfl, Or.inr rfl, Or.inr rfl, Or.inr rfl, Or.inr rfl, Or.inl rfl, Or.inl rfl, Or.inl rfl, Or.inl rfl, trivial⟩
            · refine v_iconst' X kc_1 dL_law_442 ?_
              refine v_iload X rfl dL_law_443 ?_
              refine v_bipush' X kb_7 dL_law_445 ?_
              refine v_ishr X dL_law_447 ?_
              refine v_bipush' X kb_20 dL_law_448 ?_
              refine v_callS X ms_L_101 (c_L_low l γ _ _ 20 (by omega) (by omega)) rfl ⟨(Nat.le_of_ble_eq_true rfl), (Nat.le_of_ble_eq_true rfl), (by show _ ≤ 600000; omega), (by show _ ≤ 7302250; omega)⟩ (Nat.le_of_ble_eq_true rfl) rfl dL_law_450 rfl (lo_i (fun j2 hj2 => ?_))
              refine v_iadd' X (nI_add _ _) dL_law_453 ?_
              refine v_goto (tgt := 527) X dL_law_454 (by decide) ?_
              refine v_callS X ms_L_108 (c_L_sets l γ W (4 + i) M cn tm hLI (by omega) j1 ((1 + j2)) (by omega) (hz_of (by omega))) rfl ⟨(Nat.le_of_ble_eq_true rfl), (Nat.le_of_ble_eq_true rfl), (by show _ ≤ 600000; omega), (by show _ ≤ 7302250; omega)⟩ (Nat.le_of_ble_eq_true rfl) rfl dL_law_527 rfl (sp_i (fun W2 M2 cn2 tm2 hL2 hk2 => ?_))
              refine v_istore X (Nat.le_of_ble_eq_true rfl) rfl dL_law_530 ?_
              refine v_goto (tgt := 620) X dL_law_532 (by decide) ?_
              refine v_iload X rfl dL_law_620 ?_
              refine v_if_eq_f (tgt := 636) X dL_law_622 (by decide) (by decide) ?_
              refine v_aload_n X rfl dL_law_625 ?_
              refine v_aload_n X rfl dL_law_626 ?_
              refine v_aload_n X rfl dL_law_627 ?_
              refine v_aload X rfl dL_law_628 ?_
              obtain ⟨⟨P2, T2, u2, t2, hI2⟩, -, hiv2, h92⟩ := id hL2
              refine v_callS X ms_L_94 (c_L_isTold l γ W2 _ M2 P2 T2 u2 t2 cn2 tm2 hI2 (hiv2.hb h92)) rfl ⟨(Nat.le_of_ble_eq_true rfl), (Nat.le_of_ble_eq_true rfl), (by show _ ≤ 600000; omega), (by show _ ≤ 7302250; omega)⟩ (Nat.le_of_ble_eq_true rfl) rfl dL_law_630 rfl (det_i ?_)
              refine v_if_ne_t (tgt := 638) X dL_law_633 (by decide) (by decide) ?_
              refine v_iinc' X rfl rfl (nI_inc _) dL_law_638 ?_
              refine v_goto (tgt := 230) X dL_law_641 (by decide) ?_
              exact v_Ln (v_widen (by omega) (by omega) (ih (i + 1) W2 M2 cn2 tm2 ⟨by omega, by omega⟩ hL2)) ⟨Or.inr rfl, Or.inr rfl, Or.inr rfl, Or.inr rfl, Or.inr rfl, Or.inr rfl, Or.inr rfl, Or.inl rfl, Or.inl rfl, Or.inl rfl, Or.inl rfl, trivial⟩
          · refine v_tableIn (tgt := 535) (off := 268) X dL_law_267 (by decide) (by decide) (by decide) (by decide) ?_
            refine v_aload_n X rfl dL_law_535 ?_
            refine v_aload_n X rfl dL_law_536 ?_
            refine v_iload X rfl dL_law_537 ?_
            refine v_iconst' X kc_4 dL_law_539 ?_
            refine v_ishr X dL_law_540 ?_
            refine v_iconst' X kc_4 dL_law_541 ?_
            refine v_callS X ms_L_101 (c_L_low l γ _ _ 4 (by omega) (by omega)) rfl ⟨(Nat.le_of_ble_eq_true rfl), (Nat.le_of_ble_eq_true rfl), (by show _ ≤ 600000; omega), (by show _ ≤ 7302250; omega)⟩ (Nat.le_of_ble_eq_true rfl) rfl dL_law_542 rfl (lo_i (fun j1 hj1 => ?_))
            refine v_callS X ms_L_119 (c_L_wishes l γ W (4 + i) M cn tm hLI (by omega) j1 (by omega)) rfl ⟨(Nat.le_of_ble_eq_true rfl), (Nat.le_of_ble_eq_true rfl), (by show _ ≤ 600000; omega), (by show _ ≤ 7302250; omega)⟩ (Nat.le_of_ble_eq_true rfl) rfl dL_law_545 rfl (sp_i (fun W2 M2 cn2 tm2 hL2 hk2 => ?_))
            refine v_istore X (Nat.le_of_ble_eq_true rfl) rfl dL_law_548 ?_
            refine v_goto (tgt := 620) X dL_law_550 (by decide) ?_
            refine v_iload X rfl dL_law_620 ?_
            refine v_if_eq_f (tgt := 636) X dL_law_622 (by decide) (by decide) ?_
            refine v_aload_n X rfl dL_law_625 ?_
            refine v_aload_n X rfl dL_law_626 ?_
            refine v_aload_n X rfl dL_law_627 ?_
            refine v_aload X rfl dL_law_628 ?_
            obtain ⟨⟨P2, T2, u2, t2, hI2⟩, -, hiv2, h92⟩ := id hL2
            refine v_callS X ms_L_94 (c_L_isTold l γ W2 _ M2 P2 T2 u2 t2 cn2 tm2 hI2 (hiv2.hb h92)) rfl ⟨(Nat.le_of_ble_eq_true rfl), (Nat.le_of_ble_eq_true rfl), (by show _ ≤ 600000; omega), (by show _ ≤ 7302250; omega)⟩ (Nat.le_of_ble_eq_true rfl) rfl dL_law_630 rfl (det_i ?_)
            refine v_if_ne_t (tgt := 638) X dL_law_633 (by decide) (by decide) ?_
            refine v_iinc' X rfl rfl (nI_inc _) dL_law_638 ?_
            refine v_goto (tgt := 230) X dL_law_641 (by decide) ?_
            exact v_Ln (v_widen (by omega) (by omega) (ih (i + 1) W2 M2 cn2 tm2 ⟨by omega, by omega⟩ hL2)) ⟨Or.inr rfl, Or.inr rfl, Or.inr rfl, Or.inr rfl, Or.inr rfl, Or.inr rfl, Or.inr rfl, Or.inl rfl, Or.inl rfl, Or.inl rfl, Or.inl rfl, trivial⟩
          · refine v_tableIn (tgt := 535) (off := 268) X dL_law_267 (by decide) (by decide) (by decide) (by decide) ?_
            refine v_aload_n X rfl dL_law_535 ?_
            refine v_aload_n X rfl dL_law_536 ?_
            refine v_iload X rfl dL_law_537 ?_
            refine v_iconst' X kc_4 dL_law_539 ?_
            refine v_ishr X dL_law_540 ?_
            refine v_iconst' X kc_4 dL_law_541 ?_
            refine v_callS X ms_L_101 (c_L_low l γ _ _ 4 (by omega) (by omega)) rfl ⟨(Nat.le_of_ble_eq_true rfl), (Nat.le_of_ble_eq_true rfl), (by show _ ≤ 600000; omega), (by show _ ≤ 7302250; omega)⟩ (Nat.le_of_ble_eq_true rfl) rfl dL_law_542 rfl (lo_i (fun j1 hj1 => ?_))
            refine v_callS X ms_L_119 (c_L_wishes l γ W (4 + i) M cn tm hLI (by omega) j1 (by omega)) rfl ⟨(Nat.le_of_ble_eq_true rfl), (Nat.le_of_ble_eq_true rfl), (by show _ ≤ 600000; omega), (by show _ ≤ 7302250; omega)⟩ (Nat.le_of_ble_eq_true rfl) rfl dL_law_545 rfl (sp_i (fun W2 M2 cn2 tm2 hL2 hk2 => ?_))
            refine v_istore X (Nat.le_of_ble_eq_true rfl) rfl dL_law_548 ?_
            refine v_goto (tgt := 620) X dL_law_550 (by decide) ?_
            refine v_iload X rfl dL_law_620 ?_
            refine v_if_eq_f (tgt := 636) X dL_law_622 (by decide) (by decide) ?_
            refine v_aload_n X rfl dL_law_625 ?_
            refine v_aload_n X rfl dL_law_626 ?_
            refine v_aload_n X rfl dL_law_627 ?_
            refine v_aload X rfl dL_law_628 ?_
            obtain ⟨⟨P2, T2, u2, t2, hI2⟩, -, hiv2, h92⟩ := id hL2
            refine v_callS X ms_L_94 (c_L_isTold l γ W2 _ M2 P2 T2 u2 t2 cn2 tm2 hI2 (hiv2.hb h92)) rfl ⟨(Nat.le_of_ble_eq_true rfl), (Nat.le_of_ble_eq_true rfl), (by show _ ≤ 600000; omega), (by show _ ≤ 7302250; omega)⟩ (Nat.le_of_ble_eq_true rfl) rfl dL_law_630 rfl (det_i ?_)
            refine v_if_ne_t (tgt := 638) X dL_law_633 (by decide) (by decide) ?_
            refine v_iinc' X rfl rfl (nI_inc _) dL_law_638 ?_
            refine v_goto (tgt := 230) X dL_law_641 (by decide) ?_
            exact v_Ln (v_widen (by omega) (by omega) (ih (i + 1) W2 M2 cn2 tm2 ⟨by omega, by omega⟩ hL2)) ⟨Or.inr rfl, Or.inr rfl, Or.inr rfl, Or.inr rfl, Or.inr rfl, Or.inr rfl, Or.inr rfl, Or.inl rfl, Or.inl rfl, Or.inl rfl, Or.inl rfl, trivial⟩
          · refine v_tableIn (tgt := 553) (off := 286) X dL_law_267 (by decide) (by decide) (by decide) (by decide) ?_
            refine v_aload_n X rfl dL_law_553 ?_
            refine v_aload_n X rfl dL_law_554 ?_
            refine v_iload X rfl dL_law_555 ?_
            refine v_iload X rfl dL_law_557 ?_
            refine v_bipush' X kb_7 dL_law_559 ?_
            refine v_ishr X dL_law_561 ?_
            refine v_iconst' X kc_3 dL_law_562 ?_
            refine v_callS X ms_L_101 (c_L_low l γ _ _ 3 (by omega) (by omega)) rfl ⟨(Nat.le_of_ble_eq_true rfl), (Nat.le_of_ble_eq_true rfl), (by show _ ≤ 600000; omega), (by show _ ≤ 7302250; omega)⟩ (Nat.le_of_ble_eq_true rfl) rfl dL_law_563 rfl (lo_i (fun j1 hj1 => ?_))
            refine v_iload X rfl dL_law_566 ?_
            refine v_bipush' X kb_9 dL_law_568 ?_
            refine v_ishr X dL_law_570 ?_
            refine v_iconst' X kc_4 dL_law_571 ?_
            refine v_callS X ms_L_101 (c_L_low l γ _ _ 4 (by omega) (by omega)) rfl ⟨(Nat.le_of_ble_eq_true rfl), (Nat.le_of_ble_eq_true rfl), (by show _ ≤ 600000; omega), (by show _ ≤ 7302250; omega)⟩ (Nat.le_of_ble_eq_true rfl) rfl dL_law_572 rfl (lo_i (fun j2 hj2 => ?_))
            refine v_callS X ms_L_122 (c_L_doors l γ W (4 + i) M cn tm hLI (by omega) w1 j1 j2 (by omega) (by omega) (by omega)) rfl ⟨(Nat.le_of_ble_eq_true rfl), (Nat.le_of_ble_eq_true rfl), (by show _ ≤ 600000; omega), (by show _ ≤ 7302250; omega)⟩ (Nat.le_of_ble_eq_true rfl) rfl dL_law_575 rfl (sp_i (fun W2 M2 cn2 tm2 hL2 hk2 => ?_))
            refine v_istore X (Nat.le_of_ble_eq_true rfl) rfl dL_law_578 ?_
            refine v_goto (tgt := 620) X dL_law_580 (by decide) ?_
            refine v_iload X rfl dL_law_620 ?_
            refine v_if_eq_f (tgt := 636) X dL_law_622 (by decide) (by decide) ?_
            refine v_aload_n X rfl dL_law_625 ?_
            refine v_aload_n X rfl dL_law_626 ?_
            refine v_aload_n X rfl dL_law_627 ?_
            refine v_aload X rfl dL_law_628 ?_
            obtain ⟨⟨P2, T2, u2, t2, hI2⟩, -, hiv2, h92⟩ := id hL2
            refine v_callS X ms_L_94 (c_L_isTold l γ W2 _ M2 P2 T2 u2 t2 cn2 tm2 hI2 (hiv2.hb h92)) rfl ⟨(Nat.le_of_ble_eq_true rfl), (Nat.le_of_ble_eq_true rfl), (by show _ ≤ 600000; omega), (by show _ ≤ 7302250; omega)⟩ (Nat.le_of_ble_eq_true rfl) rfl dL_law_630 rfl (det_i ?_)
            refine v_if_ne_t (tgt := 638) X dL_law_633 (by decide) (by decide) ?_
            refine v_iinc' X rfl rfl (nI_inc _) dL_law_638 ?_
            refine v_goto (tgt := 230) X dL_law_641 (by decide) ?_
            exact v_Ln (v_widen (by omega) (by omega) (ih (i + 1) W2 M2 cn2 tm2 ⟨by omega, by omega⟩ hL2)) ⟨Or.inr rfl, Or.inr rfl, Or.inr rfl, Or.inr rfl, Or.inr rfl, Or.inr rfl, Or.inr rfl, Or.inl rfl, Or.inl rfl, Or.inl rfl, Or.inl rfl, trivial⟩
          · refine v_tableIn (tgt := 553) (off := 286) X dL_law_267 (by decide) (by decide) (by decide) (by decide) ?_
            refine v_aload_n X rfl dL_law_553 ?_
            refine v_aload_n X rfl dL_law_554 ?_
            refine v_iload X rfl dL_law_555 ?_
            refine v_iload X rfl dL_law_557 ?_
            refine v_bipush' X kb_7 dL_law_559 ?_
            refine v_ishr X dL_law_561 ?_
            refine v_iconst' X kc_3 dL_law_562 ?_
            refine v_callS X ms_L_101 (c_L_low l γ _ _ 3 (by omega) (by omega)) rfl ⟨(Nat.le_of_ble_eq_true rfl), (Nat.le_of_ble_eq_true rfl), (by show _ ≤ 600000; omega), (by show _ ≤ 7302250; omega)⟩ (Nat.le_of_ble_eq_true rfl) rfl dL_law_563 rfl (lo_i (fun j1 hj1 => ?_))
            refine v_iload X rfl dL_law_566 ?_
            refine v_bipush' X kb_9 dL_law_568 ?_
            refine v_ishr X dL_law_570 ?_
            refine v_iconst' X kc_4 dL_law_571 ?_
            refine v_callS X ms_L_101 (c_L_low l γ _ _ 4 (by omega) (by omega)) rfl ⟨(Nat.le_of_ble_eq_true rfl), (Nat.le_of_ble_eq_true rfl), (by show _ ≤ 600000; omega), (by show _ ≤ 7302250; omega)⟩ (Nat.le_of_ble_eq_true rfl) rfl dL_law_572 rfl (lo_i (fun j2 hj2 => ?_))
            refine v_callS X ms_L_122 (c_L_doors l γ W (4 + i) M cn tm hLI (by omega) w1 j1 j2 (by omega) (by omega) (by omega)) rfl ⟨(Nat.le_of_ble_eq_true rfl), (Nat.le_of_ble_eq_true rfl), (by show _ ≤ 600000; omega), (by show _ ≤ 7302250; omega)⟩ (Nat.le_of_ble_eq_true rfl) rfl dL_law_575 rfl (sp_i (fun W2 M2 cn2 tm2 hL2 hk2 => ?_))
            refine v_istore X (Nat.le_of_ble_eq_true rfl) rfl dL_law_578 ?_
            refine v_goto (tgt := 620) X dL_law_580 (by decide) ?_
            refine v_iload X rfl dL_law_620 ?_
            refine v_if_eq_f (tgt := 636) X dL_law_622 (by decide) (by decide) ?_
            refine v_aload_n X rfl dL_law_625 ?_
            refine v_aload_n X rfl dL_law_626 ?_
            refine v_aload_n X rfl dL_law_627 ?_
            refine v_aload X rfl dL_law_628 ?_
            obtain ⟨⟨P2, T2, u2, t2, hI2⟩, -, hiv2, h92⟩ := id hL2
            refine v_callS X ms_L_94 (c_L_isTold l γ W2 _ M2 P2 T2 u2 t2 cn2 tm2 hI2 (hiv2.hb h92)) rfl ⟨(Nat.le_of_ble_eq_true rfl), (Nat.le_of_ble_eq_true rfl), (by show _ ≤ 600000; omega), (by show _ ≤ 7302250; omega)⟩ (Nat.le_of_ble_eq_true rfl) rfl dL_law_630 rfl (det_i ?_)
            refine v_if_ne_t (tgt := 638) X dL_law_633 (by decide) (by decide) ?_
            refine v_iinc' X rfl rfl (nI_inc _) dL_law_638 ?_
            refine v_goto (tgt := 230) X dL_law_641 (by decide) ?_
            exact v_Ln (v_widen (by omega) (by omega) (ih (i + 1) W2 M2 cn2 tm2 ⟨by omega, by omega⟩ hL2)) ⟨Or.inr rfl, Or.inr rfl, Or.inr rfl, Or.inr rfl, Or.inr rfl, Or.inr rfl, Or.inr rfl, Or.inl rfl, Or.inl rfl, Or.inl rfl, Or.inl rfl, trivial⟩
          · refine v_tableIn (tgt := 553) (off := 286) X dL_law_267 (by decide) (by decide) (by decide) (by decide) ?_
            refine v_aload_n X rfl dL_law_553 ?_
            refine v_aload_n X rfl dL_law_554 ?_
            refine v_iload X rfl dL_law_555 ?_
            refine v_iload X rfl dL_law_557 ?_
            refine v_bipush' X kb_7 dL_law_559 ?_
            refine v_ishr X dL_law_561 ?_
            refine v_iconst' X kc_3 dL_law_562 ?_
            refine v_callS X ms_L_101 (c_L_low l γ _ _ 3 (by omega) (by omega)) rfl ⟨(Nat.le_of_ble_eq_true rfl), (Nat.le_of_ble_eq_true rfl), (by show _ ≤ 600000; omega), (by show _ ≤ 7302250; omega)⟩ (Nat.le_of_ble_eq_true rfl) rfl dL_law_563 rfl (lo_i (fun j1 hj1 => ?_))
            refine v_iload X rfl dL_law_566 ?_
            refine v_bipush' X kb_9 dL_law_568 ?_
            refine v_ishr X dL_law_570 ?_
            refine v_iconst' X kc_4 dL_law_571 ?_
            refine v_callS X ms_L_101 (c_L_low l γ _ _ 4 (by omega) (by omega)) rfl ⟨(Nat.le_of_ble_eq_true rfl), (Nat.le_of_ble_eq_true rfl), (by show _ ≤ 600000; omega), (by show _ ≤ 7302250; omega)⟩ (Nat.le_of_ble_eq_true rfl) rfl dL_law_572 rfl (lo_i (fun j2 hj2 => ?_))
            refine v_callS X ms_L_122 (c_L_doors l γ W (4 + i) M cn tm hLI (by omega) w1 j1 j2 (by omega) (by omega) (by omega)) rfl ⟨(Nat.le_of_ble_eq_true rfl), (Nat.le_of_ble_eq_true rfl), (by show _ ≤ 600000; omega), (by show _ ≤ 7302250; omega)⟩ (Nat.le_of_ble_eq_true rfl) rfl dL_law_575 rfl (sp_i (fun W2 M2 cn2 tm2 hL2 hk2 => ?_))
            refine v_istore X (Nat.le_of_ble_eq_true rfl) rfl dL_law_578 ?_
            refine v_goto (tgt := 620) X dL_law_580 (by decide) ?_
            refine v_iload X rfl dL_law_620 ?_
            refine v_if_eq_f (tgt := 636) X dL_law_622 (by decide) (by decide) ?_
            refine v_aload_n X rfl dL_law_625 ?_
            refine v_aload_n X rfl dL_law_626 ?_
            refine v_aload_n X rfl dL_law_627 ?_
            refine v_aload X rfl dL_law_628 ?_
            obtain ⟨⟨P2, T2, u2, t2, hI2⟩, -, hiv2, h92⟩ := id hL2
            refine v_callS X ms_L_94 (c_L_isTold l γ W2 _ M2 P2 T2 u2 t2 cn2 tm2 hI2 (hiv2.hb h92)) rfl ⟨(Nat.le_of_ble_eq_true rfl), (Nat.le_of_ble_eq_true rfl), (by show _ ≤ 600000; omega), (by show _ ≤ 7302250; omega)⟩ (Nat.le_of_ble_eq_true rfl) rfl dL_law_630 rfl (det_i ?_)
            refine v_if_ne_t (tgt := 638) X dL_law_633 (by decide) (by decide) ?_
            refine v_iinc' X rfl rfl (nI_inc _) dL_law_638 ?_
            refine v_goto (tgt := 230) X dL_law_641 (by decide) ?_
            exact v_Ln (v_widen (by omega) (by omega) (ih (i + 1) W2 M2 cn2 tm2 ⟨by omega, by omega⟩ hL2)) ⟨Or.inr rfl, Or.inr rfl, Or.inr rfl, Or.inr rfl, Or.inr rfl, Or.inr rfl, Or.inr rfl, Or.inl rfl, Or.inl rfl, Or.inl rfl, Or.inl rfl, trivial⟩
        · refine v_tableOut (tgt := 583) X dL_law_267 (sw_out (by decide) hsw) (by decide) ?_
          refine v_aload_n X rfl dL_law_583 ?_
          refine v_aload_n X rfl dL_law_584 ?_
          refine v_aload_n X rfl dL_law_585 ?_
          refine v_aload X rfl dL_law_586 ?_
          refine v_iconst' X kc_1 dL_law_588 ?_
          refine v_iload X rfl dL_law_589 ?_
          refine v_iconst' X kc_4 dL_law_591 ?_
          refine v_ishr X dL_law_592 ?_
          refine v_iload X rfl dL_law_593 ?_
          refine v_bipush' X kb_9 dL_law_595 ?_
          refine v_ishr X dL_law_597 ?_
          refine v_iconst' X kc_4 dL_law_598 ?_
          refine v_callS X ms_L_101 (c_L_low l γ _ _ 4 (by omega) (by omega)) rfl ⟨(Nat.le_of_ble_eq_true rfl), (Nat.le_of_ble_eq_true rfl), (by show _ ≤ 600000; omega), (by show _ ≤ 7302250; omega)⟩ (Nat.le_of_ble_eq_true rfl) rfl dL_law_599 rfl (lo_i (fun j1 hj1 => ?_))
          refine v_if_ne_n (tgt := 610) X dL_law_602 (by decide) (by omega) (fun g1 => ?_) (fun g1 => ?_)
          · refine v_iconst' X kc_4 dL_law_610 ?_
            refine v_callS X ms_L_101 (c_L_low l γ _ _ 4 (by omega) (by omega)) rfl ⟨(Nat.le_of_ble_eq_true rfl), (Nat.le_of_ble_eq_true rfl), (by show _ ≤ 600000; omega), (by show _ ≤ 7302250; omega)⟩ (Nat.le_of_ble_eq_true rfl) rfl dL_law_611 rfl (lo_i (fun j2 hj2 => ?_))
            refine v_iadd' X (nI_add _ _) dL_law_614 ?_
            refine v_callS X ms_L_126 (c_L_passes l γ W (4 + i) M cn tm hLI (by omega) ((1 + j2)) (by omega) (by omega)) rfl ⟨(Nat.le_of_ble_eq_true rfl), (Nat.le_of_ble_eq_true rfl), (by show _ ≤ 600000; omega), (by show _ ≤ 7302250; omega)⟩ (Nat.le_of_ble_eq_true rfl) rfl dL_law_615 rfl (sp_i (fun W2 M2 cn2 tm2 hL2 hk2 => ?_))
            refine v_istore X (Nat.le_of_ble_eq_true rfl) rfl dL_law_618 ?_
            refine v_iload X rfl dL_law_620 ?_
            refine v_if_eq_f (tgt := 636) X dL_law_622 (by decide) (by decide) ?_
            refine v_aload_n X rfl dL_law_625 ?_
            refine v_aload_n X rfl dL_law_626 ?_
            refine v_aload_n X rfl dL_law_627 ?_
            refine v_aload X rfl dL_law_628 ?_
            obtain ⟨⟨P2, T2, u2, t2, hI2⟩, -, hiv2, h92⟩ := id hL2
            refine v_callS X ms_L_94 (c_L_isTold l γ W2 _ M2 P2 T2 u2 t2 cn2 tm2 hI2 (hiv2.hb h92)) rfl ⟨(Nat.le_of_ble_eq_true rfl), (Nat.le_of_ble_eq_true rfl), (by show _ ≤ 600000; omega), (by show _ ≤ 7302250; omega)⟩ (Nat.le_of_ble_eq_true rfl) rfl dL_law_630 rfl (det_i ?_)
            refine v_if_ne_t (tgt := 638) X dL_law_633 (by decide) (by decide) ?_
            refine v_iinc' X rfl rfl (nI_inc _) dL_law_638 ?_
            refine v_goto (tgt := 230) X dL_law_641 (by decide) ?_
            exact v_Ln (v_widen (by omega) (by omega) (ih (i + 1) W2 M2 cn2 tm2 ⟨by omega, by omega⟩ hL2)) ⟨Or.inr rfl, Or.inr rfl, Or.inr rfl, Or.inr rfl, Or.inr rfl, Or.inr rfl, Or.inr rfl, Or.inl rfl, Or.inl rfl, Or.inl rfl, Or.inl rfl, trivial⟩
          · refine v_bipush' X kb_30 dL_law_605 ?_
            refine v_goto (tgt := 611) X dL_law_607 (by decide) ?_
            refine v_callS X ms_L_101 (c_L_low l γ _ _ 30 (by omega) (by omega)) rfl ⟨(Nat.le_of_ble_eq_true rfl), (Nat.le_of_ble_eq_true rfl), (by show _ ≤ 600000; omega), (by show _ ≤ 7302250; omega)⟩ (Nat.le_of_ble_eq_true rfl) rfl dL_law_611 rfl (lo_i (fun j2 hj2 => ?_))
            refine v_iadd' X (nI_add _ _) dL_law_614 ?_
            refine v_callS X ms_L_126 (c_L_passes l γ W (4 + i) M cn tm hLI (by omega) ((1 + j2)) (by omega) (by omega)) rfl ⟨(Nat.le_of_ble_eq_true rfl), (Nat.le_of_ble_eq_true rfl), (by show _ ≤ 600000; omega), (by show _ ≤ 7302250; omega)⟩ (Nat.le_of_ble_eq_true rfl) rfl dL_law_615 rfl (sp_i (fun W2 M2 cn2 tm2 hL2 hk2 => ?_))
            refine v_istore X (Nat.le_of_ble_eq_true rfl) rfl dL_law_618 ?_
            refine v_iload X rfl dL_law_620 ?_
            refine v_if_eq_f (tgt := 636) X dL_law_622 (by decide) (by decide) ?_
            refine v_aload_n X rfl dL_law_625 ?_
            refine v_aload_n X rfl dL_law_626 ?_
            refine v_aload_n X rfl dL_law_627 ?_
            refine v_aload X rfl dL_law_628 ?_
            obtain ⟨⟨P2, T2, u2, t2, hI2⟩, -, hiv2, h92⟩ := id hL2
            refine v_callS X ms_L_94 (c_L_isTold l γ W2 _ M2 P2 T2 u2 t2 cn2 tm2 hI2 (hiv2.hb h92)) rfl ⟨(Nat.le_of_ble_eq_true rfl), (Nat.le_of_ble_eq_true rfl), (by show _ ≤ 600000; omega), (by show _ ≤ 7302250; omega)⟩ (Nat.le_of_ble_eq_true rfl) rfl dL_law_630 rfl (det_i ?_)
            refine v_if_ne_t (tgt := 638) X dL_law_633 (by decide) (by decide) ?_
            refine v_iinc' X rfl rfl (nI_inc _) dL_law_638 ?_
            refine v_goto (tgt := 230) X dL_law_641 (by decide) ?_
            exact v_Ln (v_widen (by omega) (by omega) (ih (i + 1) W2 M2 cn2 tm2 ⟨by omega, by omega⟩ hL2)) ⟨Or.inr rfl, Or.inr rfl, Or.inr rfl, Or.inr rfl, Or.inr rfl, Or.inr rfl, Or.inr rfl, Or.inl rfl, Or.inl rfl, Or.inl rfl, Or.inl rfl, trivial⟩
  exact v_Ln (v_widen (Nat.le_of_ble_eq_true rfl) (Nat.le_of_ble_eq_true rfl) (lp230 27 0 We Me cne tme ⟨by omega, by omega⟩ hLe)) ⟨Or.inr rfl, Or.inr rfl, Or.inr rfl, Or.inr rfl, Or.inr rfl, Or.inr rfl, Or.inr rfl, Or.inl rfl, Or.inl rfl, Or.inl rfl, Or.inl rfl, trivial⟩
