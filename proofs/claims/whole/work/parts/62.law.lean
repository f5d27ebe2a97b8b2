/-! the law from its entry -/
theorem st_or1 {γ : Gm} {W : Wd} {h9 : HP} {OK : Prop} {A : Wd → Prop} (h : (OK ∧ ∃ W' : Wd, h9 = rdw γ W' ∧ A W' ∧ RB W W') ∨ (¬ OK ∧ h9 = rdw γ W)) : ∃ W2, h9 = rdw γ W2 ∧ RB W W2 ∧ ((OK ∧ A W2) ∨ (¬ OK ∧ W2 = W)) := by
  rcases h with ⟨ok, W', d, e, f⟩ | ⟨nok, d⟩
  · exact ⟨W', d, f, Or.inl ⟨ok, e⟩⟩
  · exact ⟨W, d, RB.refl W, Or.inr ⟨nok, rfl⟩⟩
theorem st_or2 {γ : Gm} {W : Wd} {h9 : HP} {OK : Prop} {A : Wd → Nat → Prop} {B : Wd → Prop} (h : (OK ∧ ∃ (W' : Wd) (q2 : Nat), h9 = rdw γ W' ∧ A W' q2 ∧ RB W W') ∨ (¬ OK ∧ ∃ W' : Wd, h9 = rdw γ W' ∧ B W' ∧ RB W W')) : ∃ W2, h9 = rdw γ W2 ∧ RB W W2 ∧ ((OK ∧ ∃ q2, A W2 q2) ∨ (¬ OK ∧ B W2)) := by
  rcases h with ⟨ok, W', q2, d, e, f⟩ | ⟨nok, W', d, e, f⟩
  · exact ⟨W', d, f, Or.inl ⟨ok, q2, e⟩⟩
  · exact ⟨W', d, f, Or.inr ⟨nok, e⟩⟩
theorem st_or3 {γ : Gm} {W : Wd} {h9 : HP} {OK : Prop} {A : Wd → Nat → Nat → Nat → Prop} (h : (OK ∧ h9 = rdw γ W) ∨ (¬ OK ∧ ∃ (W' : Wd) (cn2 q2 tm2 : Nat), h9 = rdw γ W' ∧ A W' cn2 q2 tm2 ∧ RB W W')) : ∃ W2, h9 = rdw γ W2 ∧ RB W W2 ∧ ((OK ∧ W2 = W) ∨ (¬ OK ∧ ∃ cn2 q2 tm2, A W2 cn2 q2 tm2)) := by
  rcases h with ⟨ok, d⟩ | ⟨nok, W', a, b, c, d, e, f⟩
  · exact ⟨W, d, RB.refl W, Or.inl ⟨ok, rfl⟩⟩
  · exact ⟨W', d, f, Or.inr ⟨nok, a, b, c, e⟩⟩
theorem bt_hh (γ : Gm) (h : HP) (e : va_E) : ∀ i, i < 86 → (hnew (reg h γ.1 (btB γ γ.1)) e).1 (γ.1 + i) = ent γ i ((w0 γ).1 (bk i)) ((w0 γ).2.1 (lk i)) 0 := by
  intro i hi
  have hl : (btB γ γ.1).length = 86 := rfl
  rw [hnew_off _ _ (show γ.1 + i ≠ γ.1 + (btB γ γ.1).length by omega), ← bt_E γ i hi]
  show (if γ.1 + i < γ.1 then _ else (btB γ γ.1)[γ.1 + i - γ.1]?) = _
  rw [if_neg (by omega), Nat.add_sub_cancel_left]
theorem li_0 (γ : Gm) : LI γ (w0 γ) 0 := ⟨m0, z0, 0, 0, 3, 0, 0, ci_0 γ, rfl, rfl, z_nI, z_nI⟩
set_option maxHeartbeats 8000000 in
set_option maxRecDepth 100000 in
theorem law_walk {p : Program} {l : Launch} {e : Env} {s : State} {m : MethodId} {args : Array Value} {below : List Frame} {meth : Method} {c : Code} {γ : Gm} {Q : State → Prop} (X : Cx p s m args meth c γ yL_law cL_law 4 (some .boolean)) {b N : Nat} {xs : Nat → Int32} (hXs : va_X b N xs s s.heap) (hbl : b < s.heap.size) (hbA : ¬ Ag γ b) (hN : N ≤ 2048)
    (hend : ∀ (h : HP) (k j : Nat) (L : List (Option Value)), k ≤ 600000 → j ≤ 7302250 → V p l e room_1 s m args below meth c γ Q h k j 747 L [.int (nI 1)]) : V p l e room_1 s m args below meth c γ Q (fun _ => none, γ.1) 0 0 0 [some (.ref b), none, none, none] [] := by
  refine v_new X nd_L_7 (Nat.le_of_ble_eq_true rfl) (Nat.le_of_ble_eq_true rfl) dL_law_0 ?_
  refine v_dup X rfl dL_law_3 ?_
  refine v_callI X mi_L_9 (c_X6_init l γ _ γ.1 rfl (hnew_at _ _)) rfl ⟨Nat.le_of_ble_eq_true rfl, Nat.le_of_ble_eq_true rfl, Nat.le_of_ble_eq_true rfl, Nat.le_of_ble_eq_true rfl⟩ (Nat.le_of_ble_eq_true rfl) rfl dL_law_4 rfl (det_v ?_)
  refine v_astore_n X (Nat.le_of_ble_eq_true rfl) rfl dL_law_7 ?_
  refine v_new X nd_L_10 (Nat.le_of_ble_eq_true rfl) (Nat.le_of_ble_eq_true rfl) dL_law_8 ?_
  refine v_dup X rfl dL_law_11 ?_
  refine v_callI X mi_L_12 (c_X7_init l γ _ (γ.1 + 86) rfl (hnew_at _ _) rfl (bt_hh γ _ _)) rfl ⟨Nat.le_of_ble_eq_true rfl, Nat.le_of_ble_eq_true rfl, Nat.le_of_ble_eq_true rfl, Nat.le_of_ble_eq_true rfl⟩ (Nat.le_of_ble_eq_true rfl) rfl dL_law_12 rfl (det_v ?_)
  refine v_astore_n X (Nat.le_of_ble_eq_true rfl) rfl dL_law_15 ?_
  refine v_iconst' X kc_0 dL_law_16 ?_
  refine v_istore_n X (Nat.le_of_ble_eq_true rfl) rfl dL_law_17 ?_
  have lp18 : ∀ (n9 : Nat) (i : Nat) (W : Wd), i ≤ 512 ∧ 513 ≤ i + n9 → LI γ W i → V p l e room_1 s m args below meth c γ Q (rdw γ W) (92 + 60 * i) (3648 + 800 * i) 18 [some (.ref b), some (.ref γ.1), some (.ref (γ.1 + 86)), some (.int (nI (4 * i)))] [] := by
    intro n9
    induction n9 with
    | zero =>
      intro i W hbd
      exact absurd hbd (by omega)
    | succ n9 ih =>
      intro i W0 hbd hLI0
      obtain ⟨W, hWx, hLI, h138⟩ := li_swap hLI0
      rw [hWx]
      obtain ⟨M, P, u, t, cn, q, tm, hI, r1, r2, r3, r4⟩ := id hLI
      obtain ⟨nx, -, -, -, -, h6u, -⟩ := id hI.2.2.2.2.2.1
      have h60 := hI.2.2.2.2.2.2.1.2.1
      obtain ⟨hc1, hc2, hc3⟩ := id hI.2.1.1.1
      obtain ⟨hq1, h10, -⟩ := id hI.2.1.1.2.1
      refine v_iload_n X rfl dL_law_18 ?_
      refine v_aload_n X rfl dL_law_19 ?_
      refine v_slen X hXs hbl hbA dL_law_20 ?_
      refine v_iconst' X kc_4 dL_law_21 ?_
      refine v_isub X dL_law_22 ?_
      refine v_icmp_gt (tgt := 746) X dL_law_23 (by decide) (fun q1 => ?_) (fun q1 => ?_)
      · refine v_iconst' X kc_1 dL_law_746 ?_
        exact hend _ _ _ _ (by omega) (by omega)
      · have hN4 : ¬ N < 4 * i + 4 := fun z => q1 ((sub4 hN (by omega)).mpr z)
        refine v_aload_n X rfl dL_law_26 ?_
        refine v_iload_n X rfl dL_law_27 ?_
        refine v_sld X hXs hbl hbA (4 * i) rfl (by omega) (by omega) dL_law_28 ?_
        refine v_bipush' X kb_31 dL_law_29 ?_
        refine v_iand X dL_law_31 ?_
        generalize xs (4 * i) &&& nI 31 = sw
        by_cases hsw : ¬ sw < nI 0 ∧ ¬ nI 22 < sw
        · obtain ⟨jj, hjj, rfl⟩ := in_nat (by decide) hsw
          rcases (by omega : jj = 0 ∨ jj = 1 ∨ jj = 2 ∨ jj = 3 ∨ jj = 4 ∨ jj = 5 ∨ jj = 6 ∨ jj = 7 ∨ jj = 8 ∨ jj = 9 ∨ jj = 10 ∨ jj = 11 ∨ jj = 12 ∨ jj = 13 ∨ jj = 14 ∨ jj = 15 ∨ jj = 16 ∨ jj = 17 ∨ jj = 18 ∨ jj = 19 ∨ jj = 20 ∨ jj = 21 ∨ jj = 22) with rfl | rfl | rfl | rfl | rfl | rfl | rfl | rfl | rfl | rfl | rfl | rfl | rfl | rfl | rfl | rfl | rfl | rfl | rfl | rfl | rfl | rfl | rfl
          · refine v_tableIn (tgt := 140) (off := 108) X dL_law_32 (by decide) (by decide) (by decide) (by decide) ?_
            refine v_aload_n X rfl dL_law_140 ?_
            refine v_aload_n X rfl dL_law_141 ?_
            refine v_iload_n X rfl dL_law_142 ?_
            refine v_iconst' X kc_1 dL_law_143 ?_
            refine v_iadd' X (nI_add _ _) dL_law_144 ?_
            refine v_sld X hXs hbl hbA (4 * i + 1) rfl (by omega) (by omega) dL_law_145 ?_
            refine v_callV (ci := 7) X mv_L_13 (c_X6_type l γ W i M P (W.1 13) u t cn q tm hI _) rfl rfl (rd_BT γ _) rfl ⟨(Nat.le_of_ble_eq_true rfl), (Nat.le_of_ble_eq_true rfl), (by show _ ≤ 600000; omega), (by show _ ≤ 7302250; omega)⟩ (Nat.le_of_ble_eq_true rfl) rfl dL_law_146 rfl (nd_i (fun h9 hp9 => ?_))
            obtain ⟨W2, rfl, hr, hs⟩ := st_or1 hp9
            have e10 := (hr 10 (by decide)).trans r1
            have e11 := (hr 11 (by decide)).trans r2
            have eu := (congrFun (hr 15 (by decide)) 0).trans r3
            have et := (congrFun (hr 15 (by decide)) 1).trans r4
            have e13 := hr 13 (by decide)
            have e14 := hr 14 (by decide)
            refine v_aload_n X rfl dL_law_149 ?_
            refine v_aload_n X rfl dL_law_150 ?_
            refine v_iload_n X rfl dL_law_151 ?_
            refine v_iconst' X kc_1 dL_law_152 ?_
            refine v_iadd' X (nI_add _ _) dL_law_153 ?_
            refine v_sld X hXs hbl hbA (4 * i + 1) rfl (by omega) (by omega) dL_law_154 ?_
            refine v_callV (ci := 8) X mv_L_17 (c_X7_type l γ W2 t et h60 _) rfl rfl (rd_Model γ _) rfl ⟨(Nat.le_of_ble_eq_true rfl), (Nat.le_of_ble_eq_true rfl), (by show _ ≤ 600000; omega), (by show _ ≤ 7302250; omega)⟩ (Nat.le_of_ble_eq_true rfl) rfl dL_law_155 rfl (det_i ?_)
            try rw [e13]
            refine v_gw (fun W3 e3 => ?_)
            have hL3 : LI γ W3 (i + 1) := by
              rw [e3]
              rcases hs with ⟨ok, hc⟩ | ⟨nok, hw⟩
              · rw [if_pos ok.1, if_neg ok.2]; exact (li_typ hc hr r1 r2 r3).mono (by omega)
              · split
                · rename_i c1
                  split
                  · rw [hw]; exact hLI.mono (by omega)
                  · rename_i c2; exact absurd ⟨c1, c2⟩ nok
                · rw [hw]; exact hLI.mono (by omega)
            refine v_icmp_eq_t (tgt := 740) X dL_law_158 (by decide) rfl ?_
            refine v_iinc X rfl rfl dL_law_740 ?_
            rw [inc4]
            refine v_goto (tgt := 18) X dL_law_743 (by decide) ?_
            exact (v_widen (by omega) (by omega) (ih (i + 1) W3 ⟨by omega, by omega⟩ hL3))
          · refine v_tableIn (tgt := 163) (off := 131) X dL_law_32 (by decide) (by decide) (by decide) (by decide) ?_
            refine v_aload_n X rfl dL_law_163 ?_
            refine v_callV (ci := 7) X mv_L_18 (c_X6_clearText l γ W i M P (W.1 13) u t cn q tm hI) rfl rfl (rd_BT γ _) rfl ⟨(Nat.le_of_ble_eq_true rfl), (Nat.le_of_ble_eq_true rfl), (by show _ ≤ 600000; omega), (by show _ ≤ 7302250; omega)⟩ (Nat.le_of_ble_eq_true rfl) rfl dL_law_164 rfl (nd_i (fun h9 hp9 => ?_))
            obtain ⟨W2, rfl, hc, hr⟩ := hp9
            have e10 := (hr 10 (by decide)).trans r1
            have e11 := (hr 11 (by decide)).trans r2
            have eu := (congrFun (hr 15 (by decide)) 0).trans r3
            have et := (congrFun (hr 15 (by decide)) 1).trans r4
            have e13 := hr 13 (by decide)
            have e14 := hr 14 (by decide)
            refine v_aload_n X rfl dL_law_167 ?_
            refine v_callV (ci := 8) X mv_L_22 (c_X7_clearText l γ W2) rfl rfl (rd_Model γ _) rfl ⟨(Nat.le_of_ble_eq_true rfl), (Nat.le_of_ble_eq_true rfl), (by show _ ≤ 600000; omega), (by show _ ≤ 7302250; omega)⟩ (Nat.le_of_ble_eq_true rfl) rfl dL_law_168 rfl (det_i ?_)
            rw [et]
            refine v_gw (fun W3 e3 => ?_)
            have hL3 : LI γ W3 (i + 1) := by
              rw [e3]
              exact (li_clr hc hr r1 r2 r3).mono (by omega)
            refine v_icmp_eq_t (tgt := 740) X dL_law_171 (by decide) rfl ?_
            refine v_iinc X rfl rfl dL_law_740 ?_
            rw [inc4]
            refine v_goto (tgt := 18) X dL_law_743 (by decide) ?_
            exact (v_widen (by omega) (by omega) (ih (i + 1) W3 ⟨by omega, by omega⟩ hL3))
          · refine v_tableIn (tgt := 176) (off := 144) X dL_law_32 (by decide) (by decide) (by decide) (by decide) ?_
            refine v_aload_n X rfl dL_law_176 ?_
            refine v_callV (ci := 7) X mv_L_23 (c_X6_fault l γ W i M P (W.1 13) u t cn q tm hI (W.1 14)) rfl rfl (rd_BT γ _) rfl ⟨(Nat.le_of_ble_eq_true rfl), (Nat.le_of_ble_eq_true rfl), (by show _ ≤ 600000; omega), (by show _ ≤ 7302250; omega)⟩ (Nat.le_of_ble_eq_true rfl) rfl dL_law_177 rfl (nd_i (fun h9 hp9 => ?_))
            obtain ⟨W2, rfl, hc, hr⟩ := hp9
            have e10 := (hr 10 (by decide)).trans r1
            have e11 := (hr 11 (by decide)).trans r2
            have eu := (congrFun (hr 15 (by decide)) 0).trans r3
            have et := (congrFun (hr 15 (by decide)) 1).trans r4
            have e13 := hr 13 (by decide)
            have e14 := hr 14 (by decide)
            refine v_aload_n X rfl dL_law_180 ?_
            refine v_callV (ci := 8) X mv_L_26 (c_X7_fault l γ W2 t et h60) rfl rfl (rd_Model γ _) rfl ⟨(Nat.le_of_ble_eq_true rfl), (Nat.le_of_ble_eq_true rfl), (by show _ ≤ 600000; omega), (by show _ ≤ 7302250; omega)⟩ (Nat.le_of_ble_eq_true rfl) rfl dL_law_181 rfl (det_i ?_)
            rw [e13, e14, h138]
            refine v_gw (fun W3 e3 => ?_)
            have hL3 : LI γ W3 (i + 1) := by
              rw [e3]
              exact (li_rd hc hr r1 r2 r3 r4).mono (by omega)
            refine v_icmp_eq_t (tgt := 740) X dL_law_184 (by decide) rfl ?_
            refine v_iinc X rfl rfl dL_law_740 ?_
            rw [inc4]
            refine v_goto (tgt := 18) X dL_law_743 (by decide) ?_
            exact (v_widen (by omega) (by omega) (ih (i + 1) W3 ⟨by omega, by omega⟩ hL3))
          · refine v_tableIn (tgt := 189) (off := 157) X dL_law_32 (by decide) (by decide) (by decide) (by decide) ?_
            refine v_aload_n X rfl dL_law_189 ?_
            refine v_aload_n X rfl dL_law_190 ?_
            refine v_iload_n X rfl dL_law_191 ?_
            refine v_iconst' X kc_1 dL_law_192 ?_
            refine v_iadd' X (nI_add _ _) dL_law_193 ?_
            refine v_sld X hXs hbl hbA (4 * i + 1) rfl (by omega) (by omega) dL_law_194 ?_
            refine v_aload_n X rfl dL_law_195 ?_
            refine v_iload_n X rfl dL_law_196 ?_
            refine v_iconst' X kc_2 dL_law_197 ?_
            refine v_iadd' X (nI_add _ _) dL_law_198 ?_
            refine v_sld X hXs hbl hbA (4 * i + 2) rfl (by omega) (by omega) dL_law_199 ?_
            refine v_callV (ci := 7) X mv_L_27 (c_X6_set l γ W i M P (W.1 13) u t cn q tm hI (by omega) _ _) rfl rfl (rd_BT γ _) rfl ⟨(Nat.le_of_ble_eq_true rfl), (Nat.le_of_ble_eq_true rfl), (by show _ ≤ 600000; omega), (by show _ ≤ 7302250; omega)⟩ (Nat.le_of_ble_eq_true rfl) rfl dL_law_200 rfl (nd_i (fun h9 hp9 => ?_))
            obtain ⟨W2, rfl, hr, hs⟩ := st_or hp9
            have e10 := (hr 10 (by decide)).trans r1
            have e11 := (hr 11 (by decide)).trans r2
            have eu := (congrFun (hr 15 (by decide)) 0).trans r3
            have et := (congrFun (hr 15 (by decide)) 1).trans r4
            have e13 := hr 13 (by decide)
            have e14 := hr 14 (by decide)
            refine v_aload_n X rfl dL_law_203 ?_
            refine v_aload_n X rfl dL_law_204 ?_
            refine v_iload_n X rfl dL_law_205 ?_
            refine v_iconst' X kc_1 dL_law_206 ?_
            refine v_iadd' X (nI_add _ _) dL_law_207 ?_
            refine v_sld X hXs hbl hbA (4 * i + 1) rfl (by omega) (by omega) dL_law_208 ?_
            refine v_aload_n X rfl dL_law_209 ?_
            refine v_iload_n X rfl dL_law_210 ?_
            refine v_iconst' X kc_2 dL_law_211 ?_
            refine v_iadd' X (nI_add _ _) dL_law_212 ?_
            refine v_sld X hXs hbl hbA (4 * i + 2) rfl (by omega) (by omega) dL_law_213 ?_
            refine v_callV (ci := 8) X mv_L_31 (c_X7_set l γ W2 u eu h6u _ _) rfl rfl (rd_Model γ _) rfl ⟨(Nat.le_of_ble_eq_true rfl), (Nat.le_of_ble_eq_true rfl), (by show _ ≤ 600000; omega), (by show _ ≤ 7302250; omega)⟩ (Nat.le_of_ble_eq_true rfl) rfl dL_law_214 rfl (det_i ?_)
            try rw [e10]
            try rw [e11]
            refine v_gw (fun W3 e3 => ?_)
            have hL3 : LI γ W3 (i + 1) := by
              rw [e3]
              rcases hs with ⟨ok, cn2, q2, tm2, hc⟩ | ⟨nok, hw⟩
              · rw [if2p ok]; exact li_ok hc hr r4
              · rw [if2n nok, hw]; exact hLI.mono (by omega)
            refine v_icmp_eq_t (tgt := 740) X dL_law_217 (by decide) rfl ?_
            refine v_iinc X rfl rfl dL_law_740 ?_
            rw [inc4]
            refine v_goto (tgt := 18) X dL_law_743 (by decide) ?_
            exact (v_widen (by omega) (by omega) (ih (i + 1) W3 ⟨by omega, by omega⟩ hL3))
          · refine v_tableIn (tgt := 222) (off := 190) X dL_law_32 (by decide) (by decide) (by decide) (by decide) ?_
            refine v_aload_n X rfl dL_law_222 ?_
            refine v_aload_n X rfl dL_law_223 ?_
            refine v_iload_n X rfl dL_law_224 ?_
            refine v_iconst' X kc_1 dL_law_225 ?_
            refine v_iadd' X (nI_add _ _) dL_law_226 ?_
            refine v_sld X hXs hbl hbA (4 * i + 1) rfl (by omega) (by omega) dL_law_227 ?_
            refine v_callV (ci := 7) X mv_L_32 (c_X6_setTrain l γ W i M P (W.1 13) u t cn q tm hI (by omega) _) rfl rfl (rd_BT γ _) rfl ⟨(Nat.le_of_ble_eq_true rfl), (Nat.le_of_ble_eq_true rfl), (by show _ ≤ 600000; omega), (by show _ ≤ 7302250; omega)⟩ (Nat.le_of_ble_eq_true rfl) rfl dL_law_228 rfl (nd_i (fun h9 hp9 => ?_))
            obtain ⟨W2, rfl, hr, hs⟩ := st_or hp9
            have e10 := (hr 10 (by decide)).trans r1
            have e11 := (hr 11 (by decide)).trans r2
            have eu := (congrFun (hr 15 (by decide)) 0).trans r3
            have et := (congrFun (hr 15 (by decide)) 1).trans r4
            have e13 := hr 13 (by decide)
            have e14 := hr 14 (by decide)
            refine v_aload_n X rfl dL_law_231 ?_
            refine v_aload_n X rfl dL_law_232 ?_
            refine v_iload_n X rfl dL_law_233 ?_
            refine v_iconst' X kc_1 dL_law_234 ?_
            refine v_iadd' X (nI_add _ _) dL_law_235 ?_
            refine v_sld X hXs hbl hbA (4 * i + 1) rfl (by omega) (by omega) dL_law_236 ?_
            refine v_callV (ci := 8) X mv_L_35 (c_X7_setTrain l γ W2 u eu h6u cn ((congrFun e10 218).trans hc1) hc2 hc3 _) rfl rfl (rd_Model γ _) rfl ⟨(Nat.le_of_ble_eq_true rfl), (Nat.le_of_ble_eq_true rfl), (by show _ ≤ 600000; omega), (by show _ ≤ 7302250; omega)⟩ (Nat.le_of_ble_eq_true rfl) rfl dL_law_237 rfl (det_i ?_)
            try rw [e10]
            try rw [e11]
            refine v_gw (fun W3 e3 => ?_)
            have hL3 : LI γ W3 (i + 1) := by
              rw [e3]
              rcases hs with ⟨ok, cn2, q2, tm2, hc⟩ | ⟨nok, hw⟩
              · rw [if_pos ok]; exact li_ok hc hr r4
              · rw [if_neg nok, hw]; exact hLI.mono (by omega)
            refine v_icmp_eq_t (tgt := 740) X dL_law_240 (by decide) rfl ?_
            refine v_iinc X rfl rfl dL_law_740 ?_
            rw [inc4]
            refine v_goto (tgt := 18) X dL_law_743 (by decide) ?_
            exact (v_widen (by omega) (by omega) (ih (i + 1) W3 ⟨by omega, by omega⟩ hL3))
          · refine v_tableIn (tgt := 245) (off := 213) X dL_law_32 (by decide) (by decide) (by decide) (by decide) ?_
            refine v_aload_n X rfl dL_law_245 ?_
            refine v_aload_n X rfl dL_law_246 ?_
            refine v_iload_n X rfl dL_law_247 ?_
            refine v_iconst' X kc_1 dL_law_248 ?_
            refine v_iadd' X (nI_add _ _) dL_law_249 ?_
            refine v_sld X hXs hbl hbA (4 * i + 1) rfl (by omega) (by omega) dL_law_250 ?_
            refine v_aload_n X rfl dL_law_251 ?_
            refine v_iload_n X rfl dL_law_252 ?_
            refine v_iconst' X kc_2 dL_law_253 ?_
            refine v_iadd' X (nI_add _ _) dL_law_254 ?_
            refine v_sld X hXs hbl hbA (4 * i + 2) rfl (by omega) (by omega) dL_law_255 ?_
            refine v_callV (ci := 7) X mv_L_36 (c_X6_load l γ W i M P (W.1 13) u t cn q tm hI (by omega) _ _) rfl rfl (rd_BT γ _) rfl ⟨(Nat.le_of_ble_eq_true rfl), (Nat.le_of_ble_eq_true rfl), (by show _ ≤ 600000; omega), (by show _ ≤ 7302250; omega)⟩ (Nat.le_of_ble_eq_true rfl) rfl dL_law_256 rfl (nd_i (fun h9 hp9 => ?_))
            obtain ⟨W2, rfl, hr, hs⟩ := st_or hp9
            have e10 := (hr 10 (by decide)).trans r1
            have e11 := (hr 11 (by decide)).trans r2
            have eu := (congrFun (hr 15 (by decide)) 0).trans r3
            have et := (congrFun (hr 15 (by decide)) 1).trans r4
            have e13 := hr 13 (by decide)
            have e14 := hr 14 (by decide)
            refine v_aload_n X rfl dL_law_259 ?_
            refine v_aload_n X rfl dL_law_260 ?_
            refine v_iload_n X rfl dL_law_261 ?_
            refine v_iconst' X kc_1 dL_law_262 ?_
            refine v_iadd' X (nI_add _ _) dL_law_263 ?_
            refine v_sld X hXs hbl hbA (4 * i + 1) rfl (by omega) (by omega) dL_law_264 ?_
            refine v_aload_n X rfl dL_law_265 ?_
            refine v_iload_n X rfl dL_law_266 ?_
            refine v_iconst' X kc_2 dL_law_267 ?_
            refine v_iadd' X (nI_add _ _) dL_law_268 ?_
            refine v_sld X hXs hbl hbA (4 * i + 2) rfl (by omega) (by omega) dL_law_269 ?_
            refine v_callV (ci := 8) X mv_L_39 (c_X7_load l γ W2 u eu h6u cn ((congrFun e10 218).trans hc1) hc2 hc3 _ _) rfl rfl (rd_Model γ _) rfl ⟨(Nat.le_of_ble_eq_true rfl), (Nat.le_of_ble_eq_true rfl), (by show _ ≤ 600000; omega), (by show _ ≤ 7302250; omega)⟩ (Nat.le_of_ble_eq_true rfl) rfl dL_law_270 rfl (det_i ?_)
            try rw [e10]
            try rw [e11]
            refine v_gw (fun W3 e3 => ?_)
            have hL3 : LI γ W3 (i + 1) := by
              rw [e3]
              rcases hs with ⟨ok, cn2, q2, tm2, hc⟩ | ⟨nok, hw⟩
              · rw [if4p ok]; exact li_ok hc hr r4
              · rw [if4n nok, hw]; exact hLI.mono (by omega)
            refine v_icmp_eq_t (tgt := 740) X dL_law_273 (by decide) rfl ?_
            refine v_iinc X rfl rfl dL_law_740 ?_
            rw [inc4]
            refine v_goto (tgt := 18) X dL_law_743 (by decide) ?_
            exact (v_widen (by omega) (by omega) (ih (i + 1) W3 ⟨by omega, by omega⟩ hL3))
          · refine v_tableIn (tgt := 278) (off := 246) X dL_law_32 (by decide) (by decide) (by decide) (by decide) ?_
            refine v_aload_n X rfl dL_law_278 ?_
            refine v_aload_n X rfl dL_law_279 ?_
            refine v_iload_n X rfl dL_law_280 ?_
            refine v_iconst' X kc_1 dL_law_281 ?_
            refine v_iadd' X (nI_add _ _) dL_law_282 ?_
            refine v_sld X hXs hbl hbA (4 * i + 1) rfl (by omega) (by omega) dL_law_283 ?_
            refine v_aload_n X rfl dL_law_284 ?_
            refine v_iload_n X rfl dL_law_285 ?_
            refine v_iconst' X kc_2 dL_law_286 ?_
            refine v_iadd' X (nI_add _ _) dL_law_287 ?_
            refine v_sld X hXs hbl hbA (4 * i + 2) rfl (by omega) (by omega) dL_law_288 ?_
            refine v_aload_n X rfl dL_law_289 ?_
            refine v_iload_n X rfl dL_law_290 ?_
            refine v_iconst' X kc_3 dL_law_291 ?_
            refine v_iadd' X (nI_add _ _) dL_law_292 ?_
            refine v_sld X hXs hbl hbA (4 * i + 3) rfl (by omega) (by omega) dL_law_293 ?_
            refine v_callV (ci := 7) X mv_L_40 (c_X6_door l γ W i M P (W.1 13) u t cn q tm hI (by omega) _ _ _) rfl rfl (rd_BT γ _) rfl ⟨(Nat.le_of_ble_eq_true rfl), (Nat.le_of_ble_eq_true rfl), (by show _ ≤ 600000; omega), (by show _ ≤ 7302250; omega)⟩ (Nat.le_of_ble_eq_true rfl) rfl dL_law_294 rfl (nd_i (fun h9 hp9 => ?_))
            obtain ⟨W2, rfl, hr, hs⟩ := st_or hp9
            have e10 := (hr 10 (by decide)).trans r1
            have e11 := (hr 11 (by decide)).trans r2
            have eu := (congrFun (hr 15 (by decide)) 0).trans r3
            have et := (congrFun (hr 15 (by decide)) 1).trans r4
            have e13 := hr 13 (by decide)
            have e14 := hr 14 (by decide)
            refine v_aload_n X rfl dL_law_297 ?_
            refine v_aload_n X rfl dL_law_298 ?_
            refine v_iload_n X rfl dL_law_299 ?_
            refine v_iconst' X kc_1 dL_law_300 ?_
            refine v_iadd' X (nI_add _ _) dL_law_301 ?_
            refine v_sld X hXs hbl hbA (4 * i + 1) rfl (by omega) (by omega) dL_law_302 ?_
            refine v_aload_n X rfl dL_law_303 ?_
            refine v_iload_n X rfl dL_law_304 ?_
            refine v_iconst' X kc_2 dL_law_305 ?_
            refine v_iadd' X (nI_add _ _) dL_law_306 ?_
            refine v_sld X hXs hbl hbA (4 * i + 2) rfl (by omega) (by omega) dL_law_307 ?_
            refine v_aload_n X rfl dL_law_308 ?_
            refine v_iload_n X rfl dL_law_309 ?_
            refine v_iconst' X kc_3 dL_law_310 ?_
            refine v_iadd' X (nI_add _ _) dL_law_311 ?_
            refine v_sld X hXs hbl hbA (4 * i + 3) rfl (by omega) (by omega) dL_law_312 ?_
            refine v_callV (ci := 8) X mv_L_44 (c_X7_door l γ W2 u eu h6u cn ((congrFun e10 218).trans hc1) hc2 hc3 _ _ _) rfl rfl (rd_Model γ _) rfl ⟨(Nat.le_of_ble_eq_true rfl), (Nat.le_of_ble_eq_true rfl), (by show _ ≤ 600000; omega), (by show _ ≤ 7302250; omega)⟩ (Nat.le_of_ble_eq_true rfl) rfl dL_law_313 rfl (det_i ?_)
            try rw [e10]
            try rw [e11]
            refine v_gw (fun W3 e3 => ?_)
            have hL3 : LI γ W3 (i + 1) := by
              rw [e3]
              rcases hs with ⟨ok, cn2, q2, tm2, hc⟩ | ⟨nok, hw⟩
              · rw [if3p ok]; exact li_ok hc hr r4
              · rw [if3n nok, hw]; exact hLI.mono (by omega)
            refine v_icmp_eq_t (tgt := 740) X dL_law_316 (by decide) rfl ?_
            refine v_iinc X rfl rfl dL_law_740 ?_
            rw [inc4]
            refine v_goto (tgt := 18) X dL_law_743 (by decide) ?_
            exact (v_widen (by omega) (by omega) (ih (i + 1) W3 ⟨by omega, by omega⟩ hL3))
          · refine v_tableIn (tgt := 321) (off := 289) X dL_law_32 (by decide) (by decide) (by decide) (by decide) ?_
            refine v_aload_n X rfl dL_law_321 ?_
            refine v_aload_n X rfl dL_law_322 ?_
            refine v_iload_n X rfl dL_law_323 ?_
            refine v_iconst' X kc_1 dL_law_324 ?_
            refine v_iadd' X (nI_add _ _) dL_law_325 ?_
            refine v_sld X hXs hbl hbA (4 * i + 1) rfl (by omega) (by omega) dL_law_326 ?_
            refine v_callV (ci := 7) X mv_L_45 (c_X6_wish l γ W i M P (W.1 13) u t cn q tm hI (by omega) _) rfl rfl (rd_BT γ _) rfl ⟨(Nat.le_of_ble_eq_true rfl), (Nat.le_of_ble_eq_true rfl), (by show _ ≤ 600000; omega), (by show _ ≤ 7302250; omega)⟩ (Nat.le_of_ble_eq_true rfl) rfl dL_law_327 rfl (nd_i (fun h9 hp9 => ?_))
            obtain ⟨W2, rfl, hr, hs⟩ := st_or hp9
            have e10 := (hr 10 (by decide)).trans r1
            have e11 := (hr 11 (by decide)).trans r2
            have eu := (congrFun (hr 15 (by decide)) 0).trans r3
            have et := (congrFun (hr 15 (by decide)) 1).trans r4
            have e13 := hr 13 (by decide)
            have e14 := hr 14 (by decide)
            refine v_aload_n X rfl dL_law_330 ?_
            refine v_aload_n X rfl dL_law_331 ?_
            refine v_iload_n X rfl dL_law_332 ?_
            refine v_iconst' X kc_1 dL_law_333 ?_
            refine v_iadd' X (nI_add _ _) dL_law_334 ?_
            refine v_sld X hXs hbl hbA (4 * i + 1) rfl (by omega) (by omega) dL_law_335 ?_
            refine v_callV (ci := 8) X mv_L_48 (c_X7_wish l γ W2 u eu h6u _) rfl rfl (rd_Model γ _) rfl ⟨(Nat.le_of_ble_eq_true rfl), (Nat.le_of_ble_eq_true rfl), (by show _ ≤ 600000; omega), (by show _ ≤ 7302250; omega)⟩ (Nat.le_of_ble_eq_true rfl) rfl dL_law_336 rfl (det_i ?_)
            try rw [e10]
            try rw [e11]
            refine v_gw (fun W3 e3 => ?_)
            have hL3 : LI γ W3 (i + 1) := by
              rw [e3]
              rcases hs with ⟨ok, cn2, q2, tm2, hc⟩ | ⟨nok, hw⟩
              · rw [if_pos ok]; exact li_ok hc hr r4
              · rw [if_neg nok, hw]; exact hLI.mono (by omega)
            refine v_icmp_eq_t (tgt := 740) X dL_law_339 (by decide) rfl ?_
            refine v_iinc X rfl rfl dL_law_740 ?_
            rw [inc4]
            refine v_goto (tgt := 18) X dL_law_743 (by decide) ?_
            exact (v_widen (by omega) (by omega) (ih (i + 1) W3 ⟨by omega, by omega⟩ hL3))
          · refine v_tableIn (tgt := 344) (off := 312) X dL_law_32 (by decide) (by decide) (by decide) (by decide) ?_
            refine v_aload_n X rfl dL_law_344 ?_
            refine v_callV (ci := 7) X mv_L_49 (c_X6_order l γ W i M P (W.1 13) u t cn q tm hI (by omega) (W.1 14)) rfl rfl (rd_BT γ _) rfl ⟨(Nat.le_of_ble_eq_true rfl), (Nat.le_of_ble_eq_true rfl), (by show _ ≤ 600000; omega), (by show _ ≤ 7302250; omega)⟩ (Nat.le_of_ble_eq_true rfl) rfl dL_law_345 rfl (nd_i (fun h9 hp9 => ?_))
            obtain ⟨W2, rfl, hr, hs⟩ := st_or2 hp9
            have e10 := (hr 10 (by decide)).trans r1
            have e11 := (hr 11 (by decide)).trans r2
            have eu := (congrFun (hr 15 (by decide)) 0).trans r3
            have et := (congrFun (hr 15 (by decide)) 1).trans r4
            have e13 := hr 13 (by decide)
            have e14 := hr 14 (by decide)
            refine v_aload_n X rfl dL_law_348 ?_
            refine v_callV (ci := 8) X mv_L_52 (c_X7_order l γ W2 u eu h6u t et h60 q ((congrFun e10 223).trans hq1) h10) rfl rfl (rd_Model γ _) rfl ⟨(Nat.le_of_ble_eq_true rfl), (Nat.le_of_ble_eq_true rfl), (by show _ ≤ 600000; omega), (by show _ ≤ 7302250; omega)⟩ (Nat.le_of_ble_eq_true rfl) rfl dL_law_349 rfl (det_i ?_)
            rw [e13, e14, h138, e10, e11]
            refine v_gw (fun W3 e3 => ?_)
            have hL3 : LI γ W3 (i + 1) := by
              rw [e3]
              rcases hs with ⟨ok, q2, hc⟩ | ⟨nok, hc⟩
              · rw [if2p ok]; exact li_ord hc hr r4
              · rw [if2n nok]; exact (li_rd hc hr r1 r2 r3 r4).mono (by omega)
            refine v_icmp_eq_t (tgt := 740) X dL_law_352 (by decide) rfl ?_
            refine v_iinc X rfl rfl dL_law_740 ?_
            rw [inc4]
            refine v_goto (tgt := 18) X dL_law_743 (by decide) ?_
            exact (v_widen (by omega) (by omega) (ih (i + 1) W3 ⟨by omega, by omega⟩ hL3))
          · refine v_tableIn (tgt := 357) (off := 325) X dL_law_32 (by decide) (by decide) (by decide) (by decide) ?_
            refine v_aload_n X rfl dL_law_357 ?_
            refine v_aload_n X rfl dL_law_358 ?_
            refine v_iload_n X rfl dL_law_359 ?_
            refine v_iconst' X kc_1 dL_law_360 ?_
            refine v_iadd' X (nI_add _ _) dL_law_361 ?_
            refine v_sld X hXs hbl hbA (4 * i + 1) rfl (by omega) (by omega) dL_law_362 ?_
            refine v_callV (ci := 7) X mv_L_53 (c_X6_cancel l γ W i M P (W.1 13) u t cn q tm hI (by omega) _) rfl rfl (rd_BT γ _) rfl ⟨(Nat.le_of_ble_eq_true rfl), (Nat.le_of_ble_eq_true rfl), (by show _ ≤ 600000; omega), (by show _ ≤ 7302250; omega)⟩ (Nat.le_of_ble_eq_true rfl) rfl dL_law_363 rfl (nd_i (fun h9 hp9 => ?_))
            obtain ⟨W2, rfl, hr, hs⟩ := st_or hp9
            have e10 := (hr 10 (by decide)).trans r1
            have e11 := (hr 11 (by decide)).trans r2
            have eu := (congrFun (hr 15 (by decide)) 0).trans r3
            have et := (congrFun (hr 15 (by decide)) 1).trans r4
            have e13 := hr 13 (by decide)
            have e14 := hr 14 (by decide)
            refine v_aload_n X rfl dL_law_366 ?_
            refine v_aload_n X rfl dL_law_367 ?_
            refine v_iload_n X rfl dL_law_368 ?_
            refine v_iconst' X kc_1 dL_law_369 ?_
            refine v_iadd' X (nI_add _ _) dL_law_370 ?_
            refine v_sld X hXs hbl hbA (4 * i + 1) rfl (by omega) (by omega) dL_law_371 ?_
            refine v_callV (ci := 8) X mv_L_56 (c_X7_cancel l γ W2 u eu h6u q ((congrFun e10 223).trans hq1) h10 _) rfl rfl (rd_Model γ _) rfl ⟨(Nat.le_of_ble_eq_true rfl), (Nat.le_of_ble_eq_true rfl), (by show _ ≤ 600000; omega), (by show _ ≤ 7302250; omega)⟩ (Nat.le_of_ble_eq_true rfl) rfl dL_law_372 rfl (det_i ?_)
            try rw [e10]
            try rw [e11]
            refine v_gw (fun W3 e3 => ?_)
            have hL3 : LI γ W3 (i + 1) := by
              rw [e3]
              rcases hs with ⟨ok, cn2, q2, tm2, hc⟩ | ⟨nok, hw⟩
              · rw [if_pos ok]; exact li_ok hc hr r4
              · rw [if_neg nok, hw]; exact hLI.mono (by omega)
            refine v_icmp_eq_t (tgt := 740) X dL_law_375 (by decide) rfl ?_
            refine v_iinc X rfl rfl dL_law_740 ?_
            rw [inc4]
            refine v_goto (tgt := 18) X dL_law_743 (by decide) ?_
            exact (v_widen (by omega) (by omega) (ih (i + 1) W3 ⟨by omega, by omega⟩ hL3))
          · refine v_tableIn (tgt := 380) (off := 348) X dL_law_32 (by decide) (by decide) (by decide) (by decide) ?_
            refine v_aload_n X rfl dL_law_380 ?_
            refine v_aload_n X rfl dL_law_381 ?_
            refine v_iload_n X rfl dL_law_382 ?_
            refine v_iconst' X kc_1 dL_law_383 ?_
            refine v_iadd' X (nI_add _ _) dL_law_384 ?_
            refine v_sld X hXs hbl hbA (4 * i + 1) rfl (by omega) (by omega) dL_law_385 ?_
            refine v_callV (ci := 7) X mv_L_57 (c_X6_pass l γ W i M P (W.1 13) u t cn q tm hI (by omega) _) rfl rfl (rd_BT γ _) rfl ⟨(Nat.le_of_ble_eq_true rfl), (Nat.le_of_ble_eq_true rfl), (by show _ ≤ 600000; omega), (by show _ ≤ 7302250; omega)⟩ (Nat.le_of_ble_eq_true rfl) rfl dL_law_386 rfl (nd_i (fun h9 hp9 => ?_))
            obtain ⟨W2, rfl, hr, hs⟩ := st_or hp9
            have e10 := (hr 10 (by decide)).trans r1
            have e11 := (hr 11 (by decide)).trans r2
            have eu := (congrFun (hr 15 (by decide)) 0).trans r3
            have et := (congrFun (hr 15 (by decide)) 1).trans r4
            have e13 := hr 13 (by decide)
            have e14 := hr 14 (by decide)
            refine v_aload_n X rfl dL_law_389 ?_
            refine v_aload_n X rfl dL_law_390 ?_
            refine v_iload_n X rfl dL_law_391 ?_
            refine v_iconst' X kc_1 dL_law_392 ?_
            refine v_iadd' X (nI_add _ _) dL_law_393 ?_
            refine v_sld X hXs hbl hbA (4 * i + 1) rfl (by omega) (by omega) dL_law_394 ?_
            refine v_callV (ci := 8) X mv_L_60 (c_X7_pass l γ W2 u eu h6u cn (by rw [e10]; exact hI.2.1.1.vm) _) rfl rfl (rd_Model γ _) rfl ⟨(Nat.le_of_ble_eq_true rfl), (Nat.le_of_ble_eq_true rfl), (by show _ ≤ 600000; omega), (by show _ ≤ 7302250; omega)⟩ (Nat.le_of_ble_eq_true rfl) rfl dL_law_395 rfl (det_i ?_)
            try rw [e10]
            try rw [e11]
            refine v_gw (fun W3 e3 => ?_)
            have hL3 : LI γ W3 (i + 1) := by
              rw [e3]
              rcases hs with ⟨ok, cn2, q2, tm2, hc⟩ | ⟨nok, hw⟩
              · rw [if2p ok]; exact li_ok hc hr r4
              · rw [if2n nok, hw]; exact hLI.mono (by omega)
            refine v_icmp_eq_t (tgt := 740) X dL_law_398 (by decide) rfl ?_
            refine v_iinc X rfl rfl dL_law_740 ?_
            rw [inc4]
            refine v_goto (tgt := 18) X dL_law_743 (by decide) ?_
            exact (v_widen (by omega) (by omega) (ih (i + 1) W3 ⟨by omega, by omega⟩ hL3))
          · refine v_tableIn (tgt := 403) (off := 371) X dL_law_32 (by decide) (by decide) (by decide) (by decide) ?_
            refine v_aload_n X rfl dL_law_403 ?_
            refine v_aload_n X rfl dL_law_404 ?_
            refine v_iload_n X rfl dL_law_405 ?_
            refine v_iconst' X kc_1 dL_law_406 ?_
            refine v_iadd' X (nI_add _ _) dL_law_407 ?_
            refine v_sld X hXs hbl hbA (4 * i + 1) rfl (by omega) (by omega) dL_law_408 ?_
            refine v_aload_n X rfl dL_law_409 ?_
            refine v_iload_n X rfl dL_law_410 ?_
            refine v_iconst' X kc_2 dL_law_411 ?_
            refine v_iadd' X (nI_add _ _) dL_law_412 ?_
            refine v_sld X hXs hbl hbA (4 * i + 2) rfl (by omega) (by omega) dL_law_413 ?_
            refine v_aload_n X rfl dL_law_414 ?_
            refine v_iload_n X rfl dL_law_415 ?_
            refine v_iconst' X kc_3 dL_law_416 ?_
            refine v_iadd' X (nI_add _ _) dL_law_417 ?_
            refine v_sld X hXs hbl hbA (4 * i + 3) rfl (by omega) (by omega) dL_law_418 ?_
            refine v_callV (ci := 7) X mv_L_61 (c_X6_scrape l γ W i M P (W.1 13) u t cn q tm hI (by omega) _ _ _) rfl rfl (rd_BT γ _) rfl ⟨(Nat.le_of_ble_eq_true rfl), (Nat.le_of_ble_eq_true rfl), (by show _ ≤ 600000; omega), (by show _ ≤ 7302250; omega)⟩ (Nat.le_of_ble_eq_true rfl) rfl dL_law_419 rfl (nd_i (fun h9 hp9 => ?_))
            obtain ⟨W2, rfl, hr, hs⟩ := st_or hp9
            have e10 := (hr 10 (by decide)).trans r1
            have e11 := (hr 11 (by decide)).trans r2
            have eu := (congrFun (hr 15 (by decide)) 0).trans r3
            have et := (congrFun (hr 15 (by decide)) 1).trans r4
            have e13 := hr 13 (by decide)
            have e14 := hr 14 (by decide)
            refine v_aload_n X rfl dL_law_422 ?_
            refine v_aload_n X rfl dL_law_423 ?_
            refine v_iload_n X rfl dL_law_424 ?_
            refine v_iconst' X kc_1 dL_law_425 ?_
            refine v_iadd' X (nI_add _ _) dL_law_426 ?_
            refine v_sld X hXs hbl hbA (4 * i + 1) rfl (by omega) (by omega) dL_law_427 ?_
            refine v_aload_n X rfl dL_law_428 ?_
            refine v_iload_n X rfl dL_law_429 ?_
            refine v_iconst' X kc_2 dL_law_430 ?_
            refine v_iadd' X (nI_add _ _) dL_law_431 ?_
            refine v_sld X hXs hbl hbA (4 * i + 2) rfl (by omega) (by omega) dL_law_432 ?_
            refine v_aload_n X rfl dL_law_433 ?_
            refine v_iload_n X rfl dL_law_434 ?_
            refine v_iconst' X kc_3 dL_law_435 ?_
            refine v_iadd' X (nI_add _ _) dL_law_436 ?_
            refine v_sld X hXs hbl hbA (4 * i + 3) rfl (by omega) (by omega) dL_law_437 ?_
            refine v_callV (ci := 8) X mv_L_64 (c_X7_scrape l γ W2 u eu h6u _ _ _) rfl rfl (rd_Model γ _) rfl ⟨(Nat.le_of_ble_eq_true rfl), (Nat.le_of_ble_eq_true rfl), (by show _ ≤ 600000; omega), (by show _ ≤ 7302250; omega)⟩ (Nat.le_of_ble_eq_true rfl) rfl dL_law_438 rfl (det_i ?_)
            try rw [e10]
            try rw [e11]
            refine v_gw (fun W3 e3 => ?_)
            have hL3 : LI γ W3 (i + 1) := by
              rw [e3]
              rcases hs with ⟨ok, cn2, q2, tm2, hc⟩ | ⟨nok, hw⟩
              · rw [if3p ok]; exact li_ok hc hr r4
              · rw [if3n nok, hw]; exact hLI.mono (by omega)
            refine v_icmp_eq_t (tgt := 740) X dL_law_441 (by decide) rfl ?_
            refine v_iinc X rfl rfl dL_law_740 ?_
            rw [inc4]
            refine v_goto (tgt := 18) X dL_law_743 (by decide) ?_
            exact (v_widen (by omega) (by omega) (ih (i + 1) W3 ⟨by omega, by omega⟩ hL3))
          · refine v_tableIn (tgt := 446) (off := 414) X dL_law_32 (by decide) (by decide) (by decide) (by decide) ?_
            refine v_aload_n X rfl dL_law_446 ?_
            refine v_callV (ci := 7) X mv_L_65 (c_X6_undo l γ W i M P (W.1 13) u t cn q tm hI (by omega)) rfl rfl (rd_BT γ _) rfl ⟨(Nat.le_of_ble_eq_true rfl), (Nat.le_of_ble_eq_true rfl), (by show _ ≤ 600000; omega), (by show _ ≤ 7302250; omega)⟩ (Nat.le_of_ble_eq_true rfl) rfl dL_law_447 rfl (nd_i (fun h9 hp9 => ?_))
            obtain ⟨W2, rfl, hr, hs⟩ := st_or3 hp9
            have e10 := (hr 10 (by decide)).trans r1
            have e11 := (hr 11 (by decide)).trans r2
            have eu := (congrFun (hr 15 (by decide)) 0).trans r3
            have et := (congrFun (hr 15 (by decide)) 1).trans r4
            have e13 := hr 13 (by decide)
            have e14 := hr 14 (by decide)
            refine v_aload_n X rfl dL_law_450 ?_
            refine v_callV (ci := 8) X mv_L_68 (c_X7_undo l γ W2 u eu h6u) rfl rfl (rd_Model γ _) rfl ⟨(Nat.le_of_ble_eq_true rfl), (Nat.le_of_ble_eq_true rfl), (by show _ ≤ 600000; omega), (by show _ ≤ 7302250; omega)⟩ (Nat.le_of_ble_eq_true rfl) rfl dL_law_451 rfl (det_i ?_)
            rw [e10, e11]
            refine v_gw (fun W3 e3 => ?_)
            have hL3 : LI γ W3 (i + 1) := by
              rw [e3]
              rcases hs with ⟨ok, hw⟩ | ⟨nok, cn2, q2, tm2, hc⟩
              · rw [if_pos ok, hw]; exact hLI.mono (by omega)
              · rw [if_neg nok]; exact (li_und hc hr r2 r4).mono (by omega)
            refine v_icmp_eq_t (tgt := 740) X dL_law_454 (by decide) rfl ?_
            refine v_iinc X rfl rfl dL_law_740 ?_
            rw [inc4]
            refine v_goto (tgt := 18) X dL_law_743 (by decide) ?_
            exact (v_widen (by omega) (by omega) (ih (i + 1) W3 ⟨by omega, by omega⟩ hL3))
          · refine v_tableIn (tgt := 459) (off := 427) X dL_law_32 (by decide) (by decide) (by decide) (by decide) ?_
            refine v_aload_n X rfl dL_law_459 ?_
            refine v_aload_n X rfl dL_law_460 ?_
            refine v_iload_n X rfl dL_law_461 ?_
            refine v_iconst' X kc_1 dL_law_462 ?_
            refine v_iadd' X (nI_add _ _) dL_law_463 ?_
            refine v_sld X hXs hbl hbA (4 * i + 1) rfl (by omega) (by omega) dL_law_464 ?_
            refine v_aload_n X rfl dL_law_465 ?_
            refine v_iload_n X rfl dL_law_466 ?_
            refine v_iconst' X kc_2 dL_law_467 ?_
            refine v_iadd' X (nI_add _ _) dL_law_468 ?_
            refine v_sld X hXs hbl hbA (4 * i + 2) rfl (by omega) (by omega) dL_law_469 ?_
            refine v_callV (ci := 7) X mv_L_69 (c_X6_wagon l γ W i M P (W.1 13) u t cn q tm hI _ _) rfl rfl (rd_BT γ _) rfl ⟨(Nat.le_of_ble_eq_true rfl), (Nat.le_of_ble_eq_true rfl), (by show _ ≤ 600000; omega), (by show _ ≤ 7302250; omega)⟩ (Nat.le_of_ble_eq_true rfl) rfl dL_law_470 rfl (det_i ?_)
            have hr := RB.refl W
            have e10 := (hr 10 (by decide)).trans r1
            have e11 := (hr 11 (by decide)).trans r2
            have eu := (congrFun (hr 15 (by decide)) 0).trans r3
            have et := (congrFun (hr 15 (by decide)) 1).trans r4
            have e13 := hr 13 (by decide)
            have e14 := hr 14 (by decide)
            refine v_aload_n X rfl dL_law_473 ?_
            refine v_aload_n X rfl dL_law_474 ?_
            refine v_iload_n X rfl dL_law_475 ?_
            refine v_iconst' X kc_1 dL_law_476 ?_
            refine v_iadd' X (nI_add _ _) dL_law_477 ?_
            refine v_sld X hXs hbl hbA (4 * i + 1) rfl (by omega) (by omega) dL_law_478 ?_
            refine v_aload_n X rfl dL_law_479 ?_
            refine v_iload_n X rfl dL_law_480 ?_
            refine v_iconst' X kc_2 dL_law_481 ?_
            refine v_iadd' X (nI_add _ _) dL_law_482 ?_
            refine v_sld X hXs hbl hbA (4 * i + 2) rfl (by omega) (by omega) dL_law_483 ?_
            refine v_callV (ci := 8) X mv_L_72 (c_X7_wagon l γ W cn (by rw [e10]; exact hI.2.1.1.vm) _ _) rfl rfl (rd_Model γ _) rfl ⟨(Nat.le_of_ble_eq_true rfl), (Nat.le_of_ble_eq_true rfl), (by show _ ≤ 600000; omega), (by show _ ≤ 7302250; omega)⟩ (Nat.le_of_ble_eq_true rfl) rfl dL_law_484 rfl (det_i ?_)
            try rw [e10]
            try rw [e11]
            refine v_gw (fun W3 e3 => ?_)
            have hL3 : LI γ W3 (i + 1) := by
              rw [e3]
              exact hLI.mono (by omega)
            refine v_icmp_eq_t (tgt := 740) X dL_law_487 (by decide) rfl ?_
            refine v_iinc X rfl rfl dL_law_740 ?_
            rw [inc4]
            refine v_goto (tgt := 18) X dL_law_743 (by decide) ?_
            exact (v_widen (by omega) (by omega) (ih (i + 1) W3 ⟨by omega, by omega⟩ hL3))
          · refine v_tableIn (tgt := 492) (off := 460) X dL_law_32 (by decide) (by decide) (by decide) (by decide) ?_
            refine v_aload_n X rfl dL_law_492 ?_
            refine v_aload_n X rfl dL_law_493 ?_
            refine v_iload_n X rfl dL_law_494 ?_
            refine v_iconst' X kc_1 dL_law_495 ?_
            refine v_iadd' X (nI_add _ _) dL_law_496 ?_
            refine v_sld X hXs hbl hbA (4 * i + 1) rfl (by omega) (by omega) dL_law_497 ?_
            refine v_aload_n X rfl dL_law_498 ?_
            refine v_iload_n X rfl dL_law_499 ?_
            refine v_iconst' X kc_2 dL_law_500 ?_
            refine v_iadd' X (nI_add _ _) dL_law_501 ?_
            refine v_sld X hXs hbl hbA (4 * i + 2) rfl (by omega) (by omega) dL_law_502 ?_
            refine v_aload_n X rfl dL_law_503 ?_
            refine v_iload_n X rfl dL_law_504 ?_
            refine v_iconst' X kc_3 dL_law_505 ?_
            refine v_iadd' X (nI_add _ _) dL_law_506 ?_
            refine v_sld X hXs hbl hbA (4 * i + 3) rfl (by omega) (by omega) dL_law_507 ?_
            refine v_callV (ci := 7) X mv_L_73 (c_X6_doorOf l γ W i M P (W.1 13) u t cn q tm hI _ _ _) rfl rfl (rd_BT γ _) rfl ⟨(Nat.le_of_ble_eq_true rfl), (Nat.le_of_ble_eq_true rfl), (by show _ ≤ 600000; omega), (by show _ ≤ 7302250; omega)⟩ (Nat.le_of_ble_eq_true rfl) rfl dL_law_508 rfl (det_i ?_)
            have hr := RB.refl W
            have e10 := (hr 10 (by decide)).trans r1
            have e11 := (hr 11 (by decide)).trans r2
            have eu := (congrFun (hr 15 (by decide)) 0).trans r3
            have et := (congrFun (hr 15 (by decide)) 1).trans r4
            have e13 := hr 13 (by decide)
            have e14 := hr 14 (by decide)
            refine v_aload_n X rfl dL_law_511 ?_
            refine v_aload_n X rfl dL_law_512 ?_
            refine v_iload_n X rfl dL_law_513 ?_
            refine v_iconst' X kc_1 dL_law_514 ?_
            refine v_iadd' X (nI_add _ _) dL_law_515 ?_
            refine v_sld X hXs hbl hbA (4 * i + 1) rfl (by omega) (by omega) dL_law_516 ?_
            refine v_aload_n X rfl dL_law_517 ?_
            refine v_iload_n X rfl dL_law_518 ?_
            refine v_iconst' X kc_2 dL_law_519 ?_
            refine v_iadd' X (nI_add _ _) dL_law_520 ?_
            refine v_sld X hXs hbl hbA (4 * i + 2) rfl (by omega) (by omega) dL_law_521 ?_
            refine v_aload_n X rfl dL_law_522 ?_
            refine v_iload_n X rfl dL_law_523 ?_
            refine v_iconst' X kc_3 dL_law_524 ?_
            refine v_iadd' X (nI_add _ _) dL_law_525 ?_
            refine v_sld X hXs hbl hbA (4 * i + 3) rfl (by omega) (by omega) dL_law_526 ?_
            refine v_callV (ci := 8) X mv_L_76 (c_X7_doorOf l γ W cn (by rw [e10]; exact hI.2.1.1.vm) _ _ _) rfl rfl (rd_Model γ _) rfl ⟨(Nat.le_of_ble_eq_true rfl), (Nat.le_of_ble_eq_true rfl), (by show _ ≤ 600000; omega), (by show _ ≤ 7302250; omega)⟩ (Nat.le_of_ble_eq_true rfl) rfl dL_law_527 rfl (det_i ?_)
            try rw [e10]
            try rw [e11]
            refine v_gw (fun W3 e3 => ?_)
            have hL3 : LI γ W3 (i + 1) := by
              rw [e3]
              exact hLI.mono (by omega)
            refine v_icmp_eq_t (tgt := 740) X dL_law_530 (by decide) rfl ?_
            refine v_iinc X rfl rfl dL_law_740 ?_
            rw [inc4]
            refine v_goto (tgt := 18) X dL_law_743 (by decide) ?_
            exact (v_widen (by omega) (by omega) (ih (i + 1) W3 ⟨by omega, by omega⟩ hL3))
          · refine v_tableIn (tgt := 535) (off := 503) X dL_law_32 (by decide) (by decide) (by decide) (by decide) ?_
            refine v_aload_n X rfl dL_law_535 ?_
            refine v_aload_n X rfl dL_law_536 ?_
            refine v_iload_n X rfl dL_law_537 ?_
            refine v_iconst' X kc_1 dL_law_538 ?_
            refine v_iadd' X (nI_add _ _) dL_law_539 ?_
            refine v_sld X hXs hbl hbA (4 * i + 1) rfl (by omega) (by omega) dL_law_540 ?_
            refine v_aload_n X rfl dL_law_541 ?_
            refine v_iload_n X rfl dL_law_542 ?_
            refine v_iconst' X kc_2 dL_law_543 ?_
            refine v_iadd' X (nI_add _ _) dL_law_544 ?_
            refine v_sld X hXs hbl hbA (4 * i + 2) rfl (by omega) (by omega) dL_law_545 ?_
            refine v_callV (ci := 7) X mv_L_77 (c_X6_height l γ W i M P (W.1 13) u t cn q tm hI _ _) rfl rfl (rd_BT γ _) rfl ⟨(Nat.le_of_ble_eq_true rfl), (Nat.le_of_ble_eq_true rfl), (by show _ ≤ 600000; omega), (by show _ ≤ 7302250; omega)⟩ (Nat.le_of_ble_eq_true rfl) rfl dL_law_546 rfl (det_i ?_)
            have hr := RB.refl W
            have e10 := (hr 10 (by decide)).trans r1
            have e11 := (hr 11 (by decide)).trans r2
            have eu := (congrFun (hr 15 (by decide)) 0).trans r3
            have et := (congrFun (hr 15 (by decide)) 1).trans r4
            have e13 := hr 13 (by decide)
            have e14 := hr 14 (by decide)
            refine v_aload_n X rfl dL_law_549 ?_
            refine v_aload_n X rfl dL_law_550 ?_
            refine v_iload_n X rfl dL_law_551 ?_
            refine v_iconst' X kc_1 dL_law_552 ?_
            refine v_iadd' X (nI_add _ _) dL_law_553 ?_
            refine v_sld X hXs hbl hbA (4 * i + 1) rfl (by omega) (by omega) dL_law_554 ?_
            refine v_aload_n X rfl dL_law_555 ?_
            refine v_iload_n X rfl dL_law_556 ?_
            refine v_iconst' X kc_2 dL_law_557 ?_
            refine v_iadd' X (nI_add _ _) dL_law_558 ?_
            refine v_sld X hXs hbl hbA (4 * i + 2) rfl (by omega) (by omega) dL_law_559 ?_
            refine v_callV (ci := 8) X mv_L_80 (c_X7_height l γ W  _ _) rfl rfl (rd_Model γ _) rfl ⟨(Nat.le_of_ble_eq_true rfl), (Nat.le_of_ble_eq_true rfl), (by show _ ≤ 600000; omega), (by show _ ≤ 7302250; omega)⟩ (Nat.le_of_ble_eq_true rfl) rfl dL_law_560 rfl (det_i ?_)
            try rw [e10]
            try rw [e11]
            refine v_gw (fun W3 e3 => ?_)
            have hL3 : LI γ W3 (i + 1) := by
              rw [e3]
              exact hLI.mono (by omega)
            refine v_icmp_eq_t (tgt := 740) X dL_law_563 (by decide) rfl ?_
            refine v_iinc X rfl rfl dL_law_740 ?_
            rw [inc4]
            refine v_goto (tgt := 18) X dL_law_743 (by decide) ?_
            exact (v_widen (by omega) (by omega) (ih (i + 1) W3 ⟨by omega, by omega⟩ hL3))
          · refine v_tableIn (tgt := 568) (off := 536) X dL_law_32 (by decide) (by decide) (by decide) (by decide) ?_
            refine v_aload_n X rfl dL_law_568 ?_
            refine v_aload_n X rfl dL_law_569 ?_
            refine v_iload_n X rfl dL_law_570 ?_
            refine v_iconst' X kc_1 dL_law_571 ?_
            refine v_iadd' X (nI_add _ _) dL_law_572 ?_
            refine v_sld X hXs hbl hbA (4 * i + 1) rfl (by omega) (by omega) dL_law_573 ?_
            refine v_aload_n X rfl dL_law_574 ?_
            refine v_iload_n X rfl dL_law_575 ?_
            refine v_iconst' X kc_2 dL_law_576 ?_
            refine v_iadd' X (nI_add _ _) dL_law_577 ?_
            refine v_sld X hXs hbl hbA (4 * i + 2) rfl (by omega) (by omega) dL_law_578 ?_
            refine v_callV (ci := 7) X mv_L_81 (c_X6_profile l γ W i M P (W.1 13) u t cn q tm hI _ _) rfl rfl (rd_BT γ _) rfl ⟨(Nat.le_of_ble_eq_true rfl), (Nat.le_of_ble_eq_true rfl), (by show _ ≤ 600000; omega), (by show _ ≤ 7302250; omega)⟩ (Nat.le_of_ble_eq_true rfl) rfl dL_law_579 rfl (det_i ?_)
            have hr := RB.refl W
            have e10 := (hr 10 (by decide)).trans r1
            have e11 := (hr 11 (by decide)).trans r2
            have eu := (congrFun (hr 15 (by decide)) 0).trans r3
            have et := (congrFun (hr 15 (by decide)) 1).trans r4
            have e13 := hr 13 (by decide)
            have e14 := hr 14 (by decide)
            refine v_aload_n X rfl dL_law_582 ?_
            refine v_aload_n X rfl dL_law_583 ?_
            refine v_iload_n X rfl dL_law_584 ?_
            refine v_iconst' X kc_1 dL_law_585 ?_
            refine v_iadd' X (nI_add _ _) dL_law_586 ?_
            refine v_sld X hXs hbl hbA (4 * i + 1) rfl (by omega) (by omega) dL_law_587 ?_
            refine v_aload_n X rfl dL_law_588 ?_
            refine v_iload_n X rfl dL_law_589 ?_
            refine v_iconst' X kc_2 dL_law_590 ?_
            refine v_iadd' X (nI_add _ _) dL_law_591 ?_
            refine v_sld X hXs hbl hbA (4 * i + 2) rfl (by omega) (by omega) dL_law_592 ?_
            refine v_callV (ci := 8) X mv_L_84 (c_X7_profile l γ W  _ _) rfl rfl (rd_Model γ _) rfl ⟨(Nat.le_of_ble_eq_true rfl), (Nat.le_of_ble_eq_true rfl), (by show _ ≤ 600000; omega), (by show _ ≤ 7302250; omega)⟩ (Nat.le_of_ble_eq_true rfl) rfl dL_law_593 rfl (det_i ?_)
            try rw [e10]
            try rw [e11]
            refine v_gw (fun W3 e3 => ?_)
            have hL3 : LI γ W3 (i + 1) := by
              rw [e3]
              exact hLI.mono (by omega)
            refine v_icmp_eq_t (tgt := 740) X dL_law_596 (by decide) rfl ?_
            refine v_iinc X rfl rfl dL_law_740 ?_
            rw [inc4]
            refine v_goto (tgt := 18) X dL_law_743 (by decide) ?_
            exact (v_widen (by omega) (by omega) (ih (i + 1) W3 ⟨by omega, by omega⟩ hL3))
          · refine v_tableIn (tgt := 601) (off := 569) X dL_law_32 (by decide) (by decide) (by decide) (by decide) ?_
            refine v_aload_n X rfl dL_law_601 ?_
            refine v_aload_n X rfl dL_law_602 ?_
            refine v_iload_n X rfl dL_law_603 ?_
            refine v_iconst' X kc_1 dL_law_604 ?_
            refine v_iadd' X (nI_add _ _) dL_law_605 ?_
            refine v_sld X hXs hbl hbA (4 * i + 1) rfl (by omega) (by omega) dL_law_606 ?_
            refine v_callV (ci := 7) X mv_L_85 (c_X6_lacking l γ W i M P (W.1 13) u t cn q tm hI _) rfl rfl (rd_BT γ _) rfl ⟨(Nat.le_of_ble_eq_true rfl), (Nat.le_of_ble_eq_true rfl), (by show _ ≤ 600000; omega), (by show _ ≤ 7302250; omega)⟩ (Nat.le_of_ble_eq_true rfl) rfl dL_law_607 rfl (det_i ?_)
            have hr := RB.refl W
            have e10 := (hr 10 (by decide)).trans r1
            have e11 := (hr 11 (by decide)).trans r2
            have eu := (congrFun (hr 15 (by decide)) 0).trans r3
            have et := (congrFun (hr 15 (by decide)) 1).trans r4
            have e13 := hr 13 (by decide)
            have e14 := hr 14 (by decide)
            refine v_aload_n X rfl dL_law_610 ?_
            refine v_aload_n X rfl dL_law_611 ?_
            refine v_iload_n X rfl dL_law_612 ?_
            refine v_iconst' X kc_1 dL_law_613 ?_
            refine v_iadd' X (nI_add _ _) dL_law_614 ?_
            refine v_sld X hXs hbl hbA (4 * i + 1) rfl (by omega) (by omega) dL_law_615 ?_
            refine v_callV (ci := 8) X mv_L_88 (c_X7_lacking l γ W  _) rfl rfl (rd_Model γ _) rfl ⟨(Nat.le_of_ble_eq_true rfl), (Nat.le_of_ble_eq_true rfl), (by show _ ≤ 600000; omega), (by show _ ≤ 7302250; omega)⟩ (Nat.le_of_ble_eq_true rfl) rfl dL_law_616 rfl (det_i ?_)
            try rw [e10]
            try rw [e11]
            refine v_gw (fun W3 e3 => ?_)
            have hL3 : LI γ W3 (i + 1) := by
              rw [e3]
              exact hLI.mono (by omega)
            refine v_icmp_eq_t (tgt := 740) X dL_law_619 (by decide) rfl ?_
            refine v_iinc X rfl rfl dL_law_740 ?_
            rw [inc4]
            refine v_goto (tgt := 18) X dL_law_743 (by decide) ?_
            exact (v_widen (by omega) (by omega) (ih (i + 1) W3 ⟨by omega, by omega⟩ hL3))
          · refine v_tableIn (tgt := 624) (off := 592) X dL_law_32 (by decide) (by decide) (by decide) (by decide) ?_
            refine v_aload_n X rfl dL_law_624 ?_
            refine v_aload_n X rfl dL_law_625 ?_
            refine v_iload_n X rfl dL_law_626 ?_
            refine v_iconst' X kc_1 dL_law_627 ?_
            refine v_iadd' X (nI_add _ _) dL_law_628 ?_
            refine v_sld X hXs hbl hbA (4 * i + 1) rfl (by omega) (by omega) dL_law_629 ?_
            refine v_aload_n X rfl dL_law_630 ?_
            refine v_iload_n X rfl dL_law_631 ?_
            refine v_iconst' X kc_2 dL_law_632 ?_
            refine v_iadd' X (nI_add _ _) dL_law_633 ?_
            refine v_sld X hXs hbl hbA (4 * i + 2) rfl (by omega) (by omega) dL_law_634 ?_
            refine v_callV (ci := 7) X mv_L_89 (c_X6_ordered l γ W i M P (W.1 13) u t cn q tm hI _ _) rfl rfl (rd_BT γ _) rfl ⟨(Nat.le_of_ble_eq_true rfl), (Nat.le_of_ble_eq_true rfl), (by show _ ≤ 600000; omega), (by show _ ≤ 7302250; omega)⟩ (Nat.le_of_ble_eq_true rfl) rfl dL_law_635 rfl (det_i ?_)
            have hr := RB.refl W
            have e10 := (hr 10 (by decide)).trans r1
            have e11 := (hr 11 (by decide)).trans r2
            have eu := (congrFun (hr 15 (by decide)) 0).trans r3
            have et := (congrFun (hr 15 (by decide)) 1).trans r4
            have e13 := hr 13 (by decide)
            have e14 := hr 14 (by decide)
            refine v_aload_n X rfl dL_law_638 ?_
            refine v_aload_n X rfl dL_law_639 ?_
            refine v_iload_n X rfl dL_law_640 ?_
            refine v_iconst' X kc_1 dL_law_641 ?_
            refine v_iadd' X (nI_add _ _) dL_law_642 ?_
            refine v_sld X hXs hbl hbA (4 * i + 1) rfl (by omega) (by omega) dL_law_643 ?_
            refine v_aload_n X rfl dL_law_644 ?_
            refine v_iload_n X rfl dL_law_645 ?_
            refine v_iconst' X kc_2 dL_law_646 ?_
            refine v_iadd' X (nI_add _ _) dL_law_647 ?_
            refine v_sld X hXs hbl hbA (4 * i + 2) rfl (by omega) (by omega) dL_law_648 ?_
            refine v_callV (ci := 8) X mv_L_92 (c_X7_ordered l γ W q ((congrFun e10 223).trans hq1) h10 _ _) rfl rfl (rd_Model γ _) rfl ⟨(Nat.le_of_ble_eq_true rfl), (Nat.le_of_ble_eq_true rfl), (by show _ ≤ 600000; omega), (by show _ ≤ 7302250; omega)⟩ (Nat.le_of_ble_eq_true rfl) rfl dL_law_649 rfl (det_i ?_)
            try rw [e10]
            try rw [e11]
            refine v_gw (fun W3 e3 => ?_)
            have hL3 : LI γ W3 (i + 1) := by
              rw [e3]
              exact hLI.mono (by omega)
            refine v_icmp_eq_t (tgt := 740) X dL_law_652 (by decide) rfl ?_
            refine v_iinc X rfl rfl dL_law_740 ?_
            rw [inc4]
            refine v_goto (tgt := 18) X dL_law_743 (by decide) ?_
            exact (v_widen (by omega) (by omega) (ih (i + 1) W3 ⟨by omega, by omega⟩ hL3))
          · refine v_tableIn (tgt := 657) (off := 625) X dL_law_32 (by decide) (by decide) (by decide) (by decide) ?_
            refine v_aload_n X rfl dL_law_657 ?_
            refine v_aload_n X rfl dL_law_658 ?_
            refine v_iload_n X rfl dL_law_659 ?_
            refine v_iconst' X kc_1 dL_law_660 ?_
            refine v_iadd' X (nI_add _ _) dL_law_661 ?_
            refine v_sld X hXs hbl hbA (4 * i + 1) rfl (by omega) (by omega) dL_law_662 ?_
            refine v_aload_n X rfl dL_law_663 ?_
            refine v_iload_n X rfl dL_law_664 ?_
            refine v_iconst' X kc_2 dL_law_665 ?_
            refine v_iadd' X (nI_add _ _) dL_law_666 ?_
            refine v_sld X hXs hbl hbA (4 * i + 2) rfl (by omega) (by omega) dL_law_667 ?_
            refine v_callV (ci := 7) X mv_L_93 (c_X6_foretell l γ W i M P (W.1 13) u t cn q tm hI _ _) rfl rfl (rd_BT γ _) rfl ⟨(Nat.le_of_ble_eq_true rfl), (Nat.le_of_ble_eq_true rfl), (by show _ ≤ 600000; omega), (by show _ ≤ 7302250; omega)⟩ (Nat.le_of_ble_eq_true rfl) rfl dL_law_668 rfl (nd_i (fun h9 hp9 => ?_))
            obtain ⟨W2, rfl, hc, hr⟩ := hp9
            have e10 := (hr 10 (by decide)).trans r1
            have e11 := (hr 11 (by decide)).trans r2
            have eu := (congrFun (hr 15 (by decide)) 0).trans r3
            have et := (congrFun (hr 15 (by decide)) 1).trans r4
            have e13 := hr 13 (by decide)
            have e14 := hr 14 (by decide)
            refine v_aload_n X rfl dL_law_671 ?_
            refine v_aload_n X rfl dL_law_672 ?_
            refine v_iload_n X rfl dL_law_673 ?_
            refine v_iconst' X kc_1 dL_law_674 ?_
            refine v_iadd' X (nI_add _ _) dL_law_675 ?_
            refine v_sld X hXs hbl hbA (4 * i + 1) rfl (by omega) (by omega) dL_law_676 ?_
            refine v_aload_n X rfl dL_law_677 ?_
            refine v_iload_n X rfl dL_law_678 ?_
            refine v_iconst' X kc_2 dL_law_679 ?_
            refine v_iadd' X (nI_add _ _) dL_law_680 ?_
            refine v_sld X hXs hbl hbA (4 * i + 2) rfl (by omega) (by omega) dL_law_681 ?_
            refine v_callV (ci := 8) X mv_L_96 (c_X7_foretell l γ W2 cn (by rw [e10]; exact hI.2.1.1.vm) _ _) rfl rfl (rd_Model γ _) rfl ⟨(Nat.le_of_ble_eq_true rfl), (Nat.le_of_ble_eq_true rfl), (by show _ ≤ 600000; omega), (by show _ ≤ 7302250; omega)⟩ (Nat.le_of_ble_eq_true rfl) rfl dL_law_682 rfl (det_i ?_)
            try rw [e10]
            refine v_gw (fun W3 e3 => ?_)
            have hL3 : LI γ W3 (i + 1) := by
              rw [e3]
              have hz := li_aft (G := s_as (W2.1 12) (W2.1 10) 233) (x := 0) hc hr r1 r2 r3 r4
              split
              · split
                · exact hz.2.1.mono (by omega)
                · exact hz.1.mono (by omega)
              · exact hz.1.mono (by omega)
            refine v_icmp_eq_t (tgt := 740) X dL_law_685 (by decide) rfl ?_
            refine v_iinc X rfl rfl dL_law_740 ?_
            rw [inc4]
            refine v_goto (tgt := 18) X dL_law_743 (by decide) ?_
            exact (v_widen (by omega) (by omega) (ih (i + 1) W3 ⟨by omega, by omega⟩ hL3))
          · refine v_tableIn (tgt := 690) (off := 658) X dL_law_32 (by decide) (by decide) (by decide) (by decide) ?_
            refine v_aload_n X rfl dL_law_690 ?_
            refine v_callV (ci := 7) X mv_L_97 (c_X6_emptyAfter l γ W i M P (W.1 13) u t cn q tm hI) rfl rfl (rd_BT γ _) rfl ⟨(Nat.le_of_ble_eq_true rfl), (Nat.le_of_ble_eq_true rfl), (by show _ ≤ 600000; omega), (by show _ ≤ 7302250; omega)⟩ (Nat.le_of_ble_eq_true rfl) rfl dL_law_691 rfl (nd_i (fun h9 hp9 => ?_))
            obtain ⟨W2, rfl, hc, hr⟩ := hp9
            have e10 := (hr 10 (by decide)).trans r1
            have e11 := (hr 11 (by decide)).trans r2
            have eu := (congrFun (hr 15 (by decide)) 0).trans r3
            have et := (congrFun (hr 15 (by decide)) 1).trans r4
            have e13 := hr 13 (by decide)
            have e14 := hr 14 (by decide)
            refine v_aload_n X rfl dL_law_694 ?_
            refine v_callV (ci := 8) X mv_L_100 (c_X7_emptyAfter l γ W2 cn (by rw [e10]; exact hI.2.1.1.vm)) rfl rfl (rd_Model γ _) rfl ⟨(Nat.le_of_ble_eq_true rfl), (Nat.le_of_ble_eq_true rfl), (by show _ ≤ 600000; omega), (by show _ ≤ 7302250; omega)⟩ (Nat.le_of_ble_eq_true rfl) rfl dL_law_695 rfl (det_i ?_)
            try rw [e10]
            refine v_gw (fun W3 e3 => ?_)
            have hL3 : LI γ W3 (i + 1) := by
              rw [e3]
              exact (li_aft (G := s_as (W2.1 12) (W2.1 10) 233) (x := 0) hc hr r1 r2 r3 r4).2.1.mono (by omega)
            refine v_icmp_eq_t (tgt := 740) X dL_law_698 (by decide) rfl ?_
            refine v_iinc X rfl rfl dL_law_740 ?_
            rw [inc4]
            refine v_goto (tgt := 18) X dL_law_743 (by decide) ?_
            exact (v_widen (by omega) (by omega) (ih (i + 1) W3 ⟨by omega, by omega⟩ hL3))
          · refine v_tableIn (tgt := 703) (off := 671) X dL_law_32 (by decide) (by decide) (by decide) (by decide) ?_
            refine v_aload_n X rfl dL_law_703 ?_
            refine v_aload_n X rfl dL_law_704 ?_
            refine v_iload_n X rfl dL_law_705 ?_
            refine v_iconst' X kc_1 dL_law_706 ?_
            refine v_iadd' X (nI_add _ _) dL_law_707 ?_
            refine v_sld X hXs hbl hbA (4 * i + 1) rfl (by omega) (by omega) dL_law_708 ?_
            refine v_callV (ci := 7) X mv_L_101 (c_X6_count l γ W i M P (W.1 13) u t cn q tm hI _) rfl rfl (rd_BT γ _) rfl ⟨(Nat.le_of_ble_eq_true rfl), (Nat.le_of_ble_eq_true rfl), (by show _ ≤ 600000; omega), (by show _ ≤ 7302250; omega)⟩ (Nat.le_of_ble_eq_true rfl) rfl dL_law_709 rfl (det_i ?_)
            have hr := RB.refl W
            have e10 := (hr 10 (by decide)).trans r1
            have e11 := (hr 11 (by decide)).trans r2
            have eu := (congrFun (hr 15 (by decide)) 0).trans r3
            have et := (congrFun (hr 15 (by decide)) 1).trans r4
            have e13 := hr 13 (by decide)
            have e14 := hr 14 (by decide)
            refine v_aload_n X rfl dL_law_712 ?_
            refine v_aload_n X rfl dL_law_713 ?_
            refine v_iload_n X rfl dL_law_714 ?_
            refine v_iconst' X kc_1 dL_law_715 ?_
            refine v_iadd' X (nI_add _ _) dL_law_716 ?_
            refine v_sld X hXs hbl hbA (4 * i + 1) rfl (by omega) (by omega) dL_law_717 ?_
            refine v_callV (ci := 8) X mv_L_104 (c_X7_count l γ W cn (by rw [e10]; exact hI.2.1.1.vm) u t eu et _) rfl rfl (rd_Model γ _) rfl ⟨(Nat.le_of_ble_eq_true rfl), (Nat.le_of_ble_eq_true rfl), (by show _ ≤ 600000; omega), (by show _ ≤ 7302250; omega)⟩ (Nat.le_of_ble_eq_true rfl) rfl dL_law_718 rfl (det_i ?_)
            try rw [e10]
            try rw [e11]
            refine v_gw (fun W3 e3 => ?_)
            have hL3 : LI γ W3 (i + 1) := by
              rw [e3]
              exact hLI.mono (by omega)
            refine v_icmp_eq_t (tgt := 740) X dL_law_721 (by decide) rfl ?_
            refine v_iinc X rfl rfl dL_law_740 ?_
            rw [inc4]
            refine v_goto (tgt := 18) X dL_law_743 (by decide) ?_
            exact (v_widen (by omega) (by omega) (ih (i + 1) W3 ⟨by omega, by omega⟩ hL3))
          · refine v_tableIn (tgt := 726) (off := 694) X dL_law_32 (by decide) (by decide) (by decide) (by decide) ?_
            refine v_aload_n X rfl dL_law_726 ?_
            refine v_callV (ci := 7) X mv_L_105 (c_X6_digest l γ W i M P (W.1 13) u t cn q tm hI) rfl rfl (rd_BT γ _) rfl ⟨(Nat.le_of_ble_eq_true rfl), (Nat.le_of_ble_eq_true rfl), (by show _ ≤ 600000; omega), (by show _ ≤ 7302250; omega)⟩ (Nat.le_of_ble_eq_true rfl) rfl dL_law_727 rfl (nd_l (fun h9 hp9 => ?_))
            obtain ⟨W2, rfl, hc, hr⟩ := hp9
            have e10 := (hr 10 (by decide)).trans r1
            have e11 := (hr 11 (by decide)).trans r2
            have eu := (congrFun (hr 15 (by decide)) 0).trans r3
            have et := (congrFun (hr 15 (by decide)) 1).trans r4
            have e13 := hr 13 (by decide)
            have e14 := hr 14 (by decide)
            refine v_aload_n X rfl dL_law_730 ?_
            refine v_callV (ci := 8) X mv_L_109 (c_X7_digest l γ W2 cn (by rw [e10]; exact hI.2.1.1.vm) u t eu et h60 q ((congrFun e10 223).trans hq1) h10) rfl rfl (rd_Model γ _) rfl ⟨(Nat.le_of_ble_eq_true rfl), (Nat.le_of_ble_eq_true rfl), (by show _ ≤ 600000; omega), (by show _ ≤ 7302250; omega)⟩ (Nat.le_of_ble_eq_true rfl) rfl dL_law_731 rfl (det_l ?_)
            try rw [e10]
            try rw [e13]
            refine v_gw (fun W3 e3 => ?_)
            have hL3 : LI γ W3 (i + 1) := by
              rw [e3]
              exact (li_aft (G := s_as (W2.1 12) (W2.1 10) 233) hc hr r1 r2 r3 r4).2.2.mono (by omega)
            refine v_lcmp X dL_law_734 ?_
            rw [cmp_0]
            refine v_if_eq_t (tgt := 740) X dL_law_735 (by decide) rfl ?_
            refine v_iinc X rfl rfl dL_law_740 ?_
            rw [inc4]
            refine v_goto (tgt := 18) X dL_law_743 (by decide) ?_
            exact (v_widen (by omega) (by omega) (ih (i + 1) W3 ⟨by omega, by omega⟩ hL3))
        · refine v_tableOut (tgt := 740) X dL_law_32 (sw_out (by decide) hsw) (by decide) ?_
          refine v_gw (fun W3 e3 => ?_)
          have hL3 : LI γ W3 (i + 1) := by rw [e3]; exact hLI.mono (by omega)
          refine v_iinc X rfl rfl dL_law_740 ?_
          rw [inc4]
          refine v_goto (tgt := 18) X dL_law_743 (by decide) ?_
          exact (v_widen (by omega) (by omega) (ih (i + 1) W3 ⟨by omega, by omega⟩ hL3))
  exact (lp18 513 0 (w0 γ) ⟨by omega, by omega⟩ (li_0 γ))
