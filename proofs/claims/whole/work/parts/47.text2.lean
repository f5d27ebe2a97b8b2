/-! one of some letters; a cell -/
def t_num (i : Nat) (x : Int32) : Int32 := if x = (-1) then (-1) else s_ix i x
abbrev t_one (i : Nat) (x : Int32) : Prop := ¬ t_num i x < nI 0 ∧ ¬ nI (slen i - 1) < t_num i x
/-- the bytes are what may be typed -/
def BY7 (S : Nat → Int32) (n : Nat) : Prop := ∀ j, j < n → ∃ c, c < 128 ∧ S j = nI c
theorem nx_c {S : Nat → Int32} {n a : Nat} (hb : BY7 S n) (h : ¬ t_nx S n a = (-1)) : ∃ c, c < 128 ∧ t_nx S n a = nI c := by
  by_cases ha : a < n
  · obtain ⟨c, h1, h2⟩ := hb a ha
    exact ⟨c, h1, (t_nx_lt ha).trans h2⟩
  · exact absurd (t_nx_ge (by omega)) h
theorem td_s {T : Nat → Int32} {n d : Nat} {p : Rd} (hp : p.2 = (-1001)) (h2 : d < 2) (hd : d ≤ t_d T n p) (hg : t_dg T n (p.1 + d)) : d + 1 ≤ t_d T n p := by
  unfold t_d at *
  rw [if_pos hp] at *
  rcases (by omega : d = 0 ∨ d = 1) with rfl | rfl
  · rw [Nat.add_zero] at hg
    rw [if_pos hg]; split <;> omega
  · by_cases h : t_dg T n p.1
    · rw [if_pos h, if_pos hg]; exact Nat.le_refl _
    · rw [if_neg h] at hd; omega
theorem td_e {T : Nat → Int32} {n d : Nat} {p : Rd} (hp : p.2 = (-1001)) (h2 : d < 2) (hd : d ≤ t_d T n p) (hg : ¬ t_dg T n (p.1 + d)) : t_d T n p = d := by
  unfold t_d at *
  rw [if_pos hp] at *
  rcases (by omega : d = 0 ∨ d = 1) with rfl | rfl
  · rw [Nat.add_zero] at hg
    rw [if_neg hg]
  · by_cases h : t_dg T n p.1
    · rw [if_pos h, if_neg hg]
    · rw [if_neg h] at hd; omega
abbrev t_bad (T : Nat → Int32) (n : Nat) (p : Rd) : Prop := t_d T n p = 0 ∨ ¬ t_val T n p.1 (t_d T n p) < nI 40
def c_cell (T : Nat → Int32) (n : Nat) (p : Rd) : Rd := if p.2 = (-1001) then (if t_bad T n p then (p.1 + t_d T n p, nI p.1) else (t_bl T n (p.1 + t_d T n p), p.2)) else p
def c_cv (T : Nat → Int32) (n : Nat) (p : Rd) : Int32 := if p.2 = (-1001) then (if t_bad T n p then (-1001) else t_val T n p.1 (t_d T n p)) else (-1001)
set_option maxHeartbeats 4000000 in
set_option maxRecDepth 100000 in
theorem c_X3_takeOneOf (l : Launch) (γ : Gm) (W : Wd) (S : Nat → Int32) (pp : Rd) (n : Nat) (hn : S 60 = nI n) (h60 : n ≤ 60) (hp : pp.1 ≤ 800) (hb : BY7 S n) (i : Nat) (hi : i < 4) : Cr l γ yX3_takeOneOf cX3_takeOneOf 4 (some .int) 7 159 0 0 [.ref (γ.1 + 1), .ref (γ.2.2.2 (10 + i))] (rdw γ (wset W 8 (ct S pp))) (Det (some (.int (if pp.2 = (-1001) ∧ t_one i (t_nx S n pp.1) then t_num i (t_nx S n pp.1) else (-1001)))) (rdw γ (wset W 8 (ct S (r_needs S n pp (t_one i (t_nx S n pp.1))))))) := by
  refine Cr_of [some (.ref (γ.1 + 1)), some (.ref (γ.2.2.2 (10 + i))), none, none] (by decide +kernel) (Nat.le_of_ble_eq_true rfl) rfl ?_
  intro p e s m args below meth c X
  refine v_q0 (fun Q0 hQ0 => ?_)
  refine v_aload_n X rfl dX3_takeOneOf_0 ?_
  refine v_aload_n X rfl dX3_takeOneOf_1 ?_
  refine v_getf X (v := (.int ((wset W 8 (ct S pp)).1 8 62))) fd_X3_29 (rd_Text γ _) rfl dX3_takeOneOf_2 ?_
  rw [ws_same, ct_62]
  refine v_callV (ci := 4) X mv_X3_70 (c_X3_byteAt l γ W S pp n hn h60 (by omega) pp.1 (by omega)) rfl rfl (rd_Text γ _) rfl ⟨Nat.le_of_ble_eq_true rfl, Nat.le_of_ble_eq_true rfl, Nat.le_of_ble_eq_true rfl, Nat.le_of_ble_eq_true rfl⟩ (Nat.le_of_ble_eq_true rfl) rfl dX3_takeOneOf_5 rfl (det_i ?_)
  refine v_istore_n X (Nat.le_of_ble_eq_true rfl) rfl dX3_takeOneOf_8 ?_
  refine v_iload_n X rfl dX3_takeOneOf_9 ?_
  refine v_iconst' X kc_m1 dX3_takeOneOf_10 ?_
  have jn24 : ∀ (_u : Unit), V p l e { frames := 7, cells := 0, slots := 0, locals := 159 } s m args below meth c γ Q0 (rdw γ (wset W 8 (ct S pp))) 0 0 24 [some (.ref (γ.1 + 1)), some (.ref (γ.2.2.2 (10 + i))), none, none] [.int (t_num i (t_nx S n pp.1))] := by
    intro _
    refine v_istore_n X (Nat.le_of_ble_eq_true rfl) rfl dX3_takeOneOf_24 ?_
    refine v_aload_n X rfl dX3_takeOneOf_25 ?_
    refine v_iload_n X rfl dX3_takeOneOf_26 ?_
    refine v_iconst' X kc_0 dX3_takeOneOf_27 ?_
    refine v_aload_n X rfl dX3_takeOneOf_28 ?_
    refine v_callT X mv_X3_79 (c_J0_length_8abf5 l γ _ i hi) ((cx_S X hi).1) rfl ⟨Nat.le_of_ble_eq_true rfl, Nat.le_of_ble_eq_true rfl, Nat.le_of_ble_eq_true rfl, Nat.le_of_ble_eq_true rfl⟩ (Nat.le_of_ble_eq_true rfl) rfl dX3_takeOneOf_29 rfl (det_i ?_)
    refine v_iconst' X kc_1 dX3_takeOneOf_32 ?_
    refine v_isub' X (v := nI (slen i - 1)) (pk_sub (sl_b i hi).1) dX3_takeOneOf_33 ?_
    refine v_callV (ci := 4) X mv_X3_81 (c_X3_take l γ W S pp n hn h60 hp _ _ _) rfl rfl (rd_Text γ _) rfl ⟨Nat.le_of_ble_eq_true rfl, Nat.le_of_ble_eq_true rfl, Nat.le_of_ble_eq_true rfl, Nat.le_of_ble_eq_true rfl⟩ (Nat.le_of_ble_eq_true rfl) rfl dX3_takeOneOf_34 rfl (det_i ?_)
    subst hQ0
    exact v_iret X rfl (Nat.le_of_ble_eq_true rfl) (Nat.le_of_ble_eq_true rfl) dX3_takeOneOf_37 ⟨rfl, rfl⟩
  refine v_icmp_ne (tgt := 18) X dX3_takeOneOf_11 (by decide) (fun q1 => ?_) (fun q1 => ?_)
  · obtain ⟨c0, hc0, ec⟩ := nx_c hb q1
    have e9 : t_num i (t_nx S n pp.1) = s_ix i (nI c0) := by rw [← ec]; exact if_neg q1
    rw [ec]
    refine v_aload_n X rfl dX3_takeOneOf_18 ?_
    refine v_iload_n X rfl dX3_takeOneOf_19 ?_
    refine v_i2c X dX3_takeOneOf_20 ?_
    rw [c_i2c c0 hc0]
    refine v_callT X mv_X3_74 (c_J0_indexOf_0f7a4 l γ _ i hi c0 hc0) ((cx_S X hi).1) rfl ⟨Nat.le_of_ble_eq_true rfl, Nat.le_of_ble_eq_true rfl, Nat.le_of_ble_eq_true rfl, Nat.le_of_ble_eq_true rfl⟩ (Nat.le_of_ble_eq_true rfl) rfl dX3_takeOneOf_21 rfl (det_i ?_)
    rw [e9] at jn24
    exact v_Ln (jn24 ()) ⟨Or.inr rfl, Or.inr rfl, Or.inl rfl, Or.inl rfl, trivial⟩
  · have e9 : t_num i (t_nx S n pp.1) = (-1) := if_pos q1
    refine v_iconst' X kc_m1 dX3_takeOneOf_14 ?_
    refine v_goto (tgt := 24) X dX3_takeOneOf_15 (by decide) ?_
    rw [e9] at jn24
    exact v_Ln (jn24 ()) ⟨Or.inr rfl, Or.inr rfl, Or.inl rfl, Or.inl rfl, trivial⟩
set_option maxHeartbeats 4000000 in
set_option maxRecDepth 100000 in
theorem c_X3_takeCell (l : Launch) (γ : Gm) (W : Wd) (S : Nat → Int32) (pp : Rd) (n : Nat) (hn : S 60 = nI n) (h60 : n ≤ 60) (hp : pp.1 ≤ 800) : Cr l γ yX3_takeCell cX3_takeCell 4 (some .int) 2 42 0 0 [.ref (γ.1 + 1)] (rdw γ (wset W 8 (ct S pp))) (Det (some (.int (c_cv S n pp))) (rdw γ (wset W 8 (ct S (c_cell S n pp))))) := by
  refine Cr_of [some (.ref (γ.1 + 1)), none, none, none] (by decide +kernel) (Nat.le_of_ble_eq_true rfl) rfl ?_
  intro p e s m args below meth c X
  refine v_q0 (fun Q0 hQ0 => ?_)
  refine v_aload_n X rfl dX3_takeCell_0 ?_
  refine v_getf X (v := (.int ((wset W 8 (ct S pp)).1 8 61))) fd_X3_26 (rd_Text γ _) rfl dX3_takeCell_1 ?_
  rw [ws_same, ct_61]
  refine v_sipush' X ks_m1001 dX3_takeCell_4 ?_
  refine v_icmp_eq (tgt := 14) X dX3_takeCell_7 (by decide) (fun q1 => ?_) (fun q1 => ?_)
  · refine v_aload_n X rfl dX3_takeCell_14 ?_
    refine v_getf X (v := (.int ((wset W 8 (ct S pp)).1 8 62))) fd_X3_29 (rd_Text γ _) rfl dX3_takeCell_15 ?_
    rw [ws_same, ct_62]
    refine v_istore_n X (Nat.le_of_ble_eq_true rfl) rfl dX3_takeCell_18 ?_
    refine v_iconst' X kc_0 dX3_takeCell_19 ?_
    refine v_istore_n X (Nat.le_of_ble_eq_true rfl) rfl dX3_takeCell_20 ?_
    refine v_iconst' X kc_0 dX3_takeCell_21 ?_
    refine v_istore_n X (Nat.le_of_ble_eq_true rfl) rfl dX3_takeCell_22 ?_
    have lp23 : ∀ (n9 : Nat) (d : Nat), d ≤ 2 ∧ d ≤ t_d S n pp ∧ 3 ≤ d + n9 → V p l e { frames := 2, cells := 0, slots := 0, locals := 42 } s m args below meth c γ Q0 (rdw γ (wset W 8 (ct S (pp.1 + d, pp.2)))) 0 0 23 [some (.ref (γ.1 + 1)), some (.int (nI pp.1)), some (.int (t_val S n pp.1 d)), some (.int (nI d))] [] := by
      intro n9
      induction n9 with
      | zero =>
        intro d hbd
        exact absurd hbd (by omega)
      | succ n9 ih =>
        intro d hbd
        refine v_iload_n X rfl dX3_takeCell_23 ?_
        refine v_iconst' X kc_2 dX3_takeCell_24 ?_
        refine v_icmp_ge_n (tgt := 75) X dX3_takeCell_25 (by decide) (by omega) (by omega) (fun q2 => ?_) (fun q2 => ?_)
        · have hD : t_d S n pp = d := by have := t_d_le S n pp; omega
          refine v_aload_n X rfl dX3_takeCell_75 ?_
          refine v_getf X (v := (.int ((wset W 8 (ct S (pp.1 + d, pp.2))).1 8 62))) fd_X3_29 (rd_Text γ _) rfl dX3_takeCell_76 ?_
          rw [ws_same, ct_62]
          refine v_iload_n X rfl dX3_takeCell_79 ?_
          refine v_icmp_eq_n (tgt := 89) X dX3_takeCell_80 (by decide) (by omega) (by omega) (fun q4 => ?_) (fun q4 => ?_)
          · have hbad : t_bad S n pp := Or.inl (by omega)
            refine v_aload_n X rfl dX3_takeCell_89 ?_
            refine v_iload_n X rfl dX3_takeCell_90 ?_
            refine v_putf X fp_X3_26 (rd_Text γ _) rfl rfl (Nat.le_of_ble_eq_true rfl) dX3_takeCell_91 ?_
            refine v_eqh (uq_tfault γ _ _) ?_
            rw [ws_same, wset_wset, ct_u61]
            have hval : (-1001 : Int32) = c_cv S n pp := by unfold c_cv; rw [if_pos q1, if_pos hbad]
            have hst : c_cell S n pp = (pp.1 + d, nI pp.1) := by unfold c_cell; rw [if_pos q1, if_pos hbad, hD]
            refine v_sipush' X ks_m1001 dX3_takeCell_94 ?_
            subst hQ0
            exact v_iret X rfl (Nat.le_of_ble_eq_true rfl) (Nat.le_of_ble_eq_true rfl) dX3_takeCell_97 ⟨so_some hval, by rw [hst]⟩
          · refine v_iload_n X rfl dX3_takeCell_83 ?_
            refine v_bipush' X kb_40 dX3_takeCell_84 ?_
            refine v_icmp_lt (tgt := 98) X dX3_takeCell_86 (by decide) (fun q5 => ?_) (fun q5 => ?_)
            · have hgood : ¬ t_bad S n pp := fun z => z.elim (fun y => q4 (by omega)) (fun y => y (by rw [hD]; exact q5))
              have hval : t_val S n pp.1 d = c_cv S n pp := by unfold c_cv; rw [if_pos q1, if_neg hgood, hD]
              have hst : c_cell S n pp = (t_bl S n (pp.1 + d), pp.2) := by unfold c_cell; rw [if_pos q1, if_neg hgood, hD]
              refine v_aload_n X rfl dX3_takeCell_98 ?_
              refine v_callV (ci := 4) X mv_X3_35 (c_X3_skipBlanks l γ W S (pp.1 + d, pp.2) n hn h60 (by show pp.1 + d ≤ 830; omega)) rfl rfl (rd_Text γ _) rfl ⟨Nat.le_of_ble_eq_true rfl, Nat.le_of_ble_eq_true rfl, Nat.le_of_ble_eq_true rfl, Nat.le_of_ble_eq_true rfl⟩ (Nat.le_of_ble_eq_true rfl) rfl dX3_takeCell_99 rfl (det_v ?_)
              refine v_iload_n X rfl dX3_takeCell_102 ?_
              subst hQ0
              exact v_iret X rfl (Nat.le_of_ble_eq_true rfl) (Nat.le_of_ble_eq_true rfl) dX3_takeCell_103 ⟨so_some hval, by rw [hst]⟩
            · have hbad : t_bad S n pp := Or.inr (by rw [hD]; exact q5)
              refine v_aload_n X rfl dX3_takeCell_89 ?_
              refine v_iload_n X rfl dX3_takeCell_90 ?_
              refine v_putf X fp_X3_26 (rd_Text γ _) rfl rfl (Nat.le_of_ble_eq_true rfl) dX3_takeCell_91 ?_
              refine v_eqh (uq_tfault γ _ _) ?_
              rw [ws_same, wset_wset, ct_u61]
              have hval : (-1001 : Int32) = c_cv S n pp := by unfold c_cv; rw [if_pos q1, if_pos hbad]
              have hst : c_cell S n pp = (pp.1 + d, nI pp.1) := by unfold c_cell; rw [if_pos q1, if_pos hbad, hD]
              refine v_sipush' X ks_m1001 dX3_takeCell_94 ?_
              subst hQ0
              exact v_iret X rfl (Nat.le_of_ble_eq_true rfl) (Nat.le_of_ble_eq_true rfl) dX3_takeCell_97 ⟨so_some hval, by rw [hst]⟩
        · refine v_aload_n X rfl dX3_takeCell_28 ?_
          refine v_aload_n X rfl dX3_takeCell_29 ?_
          refine v_getf X (v := (.int ((wset W 8 (ct S (pp.1 + d, pp.2))).1 8 62))) fd_X3_29 (rd_Text γ _) rfl dX3_takeCell_30 ?_
          rw [ws_same, ct_62]
          refine v_callV (ci := 4) X mv_X3_70 (c_X3_byteAt l γ W S (pp.1 + d, pp.2) n hn h60 (by show pp.1 + d ≤ 900; omega) (pp.1 + d) (by omega)) rfl rfl (rd_Text γ _) rfl ⟨Nat.le_of_ble_eq_true rfl, Nat.le_of_ble_eq_true rfl, Nat.le_of_ble_eq_true rfl, Nat.le_of_ble_eq_true rfl⟩ (Nat.le_of_ble_eq_true rfl) rfl dX3_takeCell_33 rfl (det_i ?_)
          refine v_callS X ms_X3_89 (c_X3_isDigit l γ _ _) rfl ⟨Nat.le_of_ble_eq_true rfl, Nat.le_of_ble_eq_true rfl, Nat.le_of_ble_eq_true rfl, Nat.le_of_ble_eq_true rfl⟩ (Nat.le_of_ble_eq_true rfl) rfl dX3_takeCell_36 rfl (det_i ?_)
          refine v_if_eq_b (tgt := 75) X dX3_takeCell_39 (by decide) (fun q3 => ?_) (fun q3 => ?_)
          · have hD : t_d S n pp = d := td_e q1 (by omega) hbd.2.1 q3
            refine v_aload_n X rfl dX3_takeCell_75 ?_
            refine v_getf X (v := (.int ((wset W 8 (ct S (pp.1 + d, pp.2))).1 8 62))) fd_X3_29 (rd_Text γ _) rfl dX3_takeCell_76 ?_
            rw [ws_same, ct_62]
            refine v_iload_n X rfl dX3_takeCell_79 ?_
            refine v_icmp_eq_n (tgt := 89) X dX3_takeCell_80 (by decide) (by omega) (by omega) (fun q4 => ?_) (fun q4 => ?_)
            · have hbad : t_bad S n pp := Or.inl (by omega)
              refine v_aload_n X rfl dX3_takeCell_89 ?_
              refine v_iload_n X rfl dX3_takeCell_90 ?_
              refine v_putf X fp_X3_26 (rd_Text γ _) rfl rfl (Nat.le_of_ble_eq_true rfl) dX3_takeCell_91 ?_
              refine v_eqh (uq_tfault γ _ _) ?_
              rw [ws_same, wset_wset, ct_u61]
              have hval : (-1001 : Int32) = c_cv S n pp := by unfold c_cv; rw [if_pos q1, if_pos hbad]
              have hst : c_cell S n pp = (pp.1 + d, nI pp.1) := by unfold c_cell; rw [if_pos q1, if_pos hbad, hD]
              refine v_sipush' X ks_m1001 dX3_takeCell_94 ?_
              subst hQ0
              exact v_iret X rfl (Nat.le_of_ble_eq_true rfl) (Nat.le_of_ble_eq_true rfl) dX3_takeCell_97 ⟨so_some hval, by rw [hst]⟩
            · refine v_iload_n X rfl dX3_takeCell_83 ?_
              refine v_bipush' X kb_40 dX3_takeCell_84 ?_
              refine v_icmp_lt (tgt := 98) X dX3_takeCell_86 (by decide) (fun q5 => ?_) (fun q5 => ?_)
              · have hgood : ¬ t_bad S n pp := fun z => z.elim (fun y => q4 (by omega)) (fun y => y (by rw [hD]; exact q5))
                have hval : t_val S n pp.1 d = c_cv S n pp := by unfold c_cv; rw [if_pos q1, if_neg hgood, hD]
                have hst : c_cell S n pp = (t_bl S n (pp.1 + d), pp.2) := by unfold c_cell; rw [if_pos q1, if_neg hgood, hD]
                refine v_aload_n X rfl dX3_takeCell_98 ?_
                refine v_callV (ci := 4) X mv_X3_35 (c_X3_skipBlanks l γ W S (pp.1 + d, pp.2) n hn h60 (by show pp.1 + d ≤ 830; omega)) rfl rfl (rd_Text γ _) rfl ⟨Nat.le_of_ble_eq_true rfl, Nat.le_of_ble_eq_true rfl, Nat.le_of_ble_eq_true rfl, Nat.le_of_ble_eq_true rfl⟩ (Nat.le_of_ble_eq_true rfl) rfl dX3_takeCell_99 rfl (det_v ?_)
                refine v_iload_n X rfl dX3_takeCell_102 ?_
                subst hQ0
                exact v_iret X rfl (Nat.le_of_ble_eq_true rfl) (Nat.le_of_ble_eq_true rfl) dX3_takeCell_103 ⟨so_some hval, by rw [hst]⟩
              · have hbad : t_bad S n pp := Or.inr (by rw [hD]; exact q5)
                refine v_aload_n X rfl dX3_takeCell_89 ?_
                refine v_iload_n X rfl dX3_takeCell_90 ?_
                refine v_putf X fp_X3_26 (rd_Text γ _) rfl rfl (Nat.le_of_ble_eq_true rfl) dX3_takeCell_91 ?_
                refine v_eqh (uq_tfault γ _ _) ?_
                rw [ws_same, wset_wset, ct_u61]
                have hval : (-1001 : Int32) = c_cv S n pp := by unfold c_cv; rw [if_pos q1, if_pos hbad]
                have hst : c_cell S n pp = (pp.1 + d, nI pp.1) := by unfold c_cell; rw [if_pos q1, if_pos hbad, hD]
                refine v_sipush' X ks_m1001 dX3_takeCell_94 ?_
                subst hQ0
                exact v_iret X rfl (Nat.le_of_ble_eq_true rfl) (Nat.le_of_ble_eq_true rfl) dX3_takeCell_97 ⟨so_some hval, by rw [hst]⟩
          · refine v_bipush' X kb_10 dX3_takeCell_42 ?_
            refine v_iload_n X rfl dX3_takeCell_44 ?_
            refine v_imul X dX3_takeCell_45 ?_
            refine v_aload_n X rfl dX3_takeCell_46 ?_
            refine v_aload_n X rfl dX3_takeCell_47 ?_
            refine v_getf X (v := (.int ((wset W 8 (ct S (pp.1 + d, pp.2))).1 8 62))) fd_X3_29 (rd_Text γ _) rfl dX3_takeCell_48 ?_
            rw [ws_same, ct_62]
            refine v_callV (ci := 4) X mv_X3_70 (c_X3_byteAt l γ W S (pp.1 + d, pp.2) n hn h60 (by show pp.1 + d ≤ 900; omega) (pp.1 + d) (by omega)) rfl rfl (rd_Text γ _) rfl ⟨Nat.le_of_ble_eq_true rfl, Nat.le_of_ble_eq_true rfl, Nat.le_of_ble_eq_true rfl, Nat.le_of_ble_eq_true rfl⟩ (Nat.le_of_ble_eq_true rfl) rfl dX3_takeCell_51 rfl (det_i ?_)
            refine v_iadd X dX3_takeCell_54 ?_
            refine v_bipush' X kb_48 dX3_takeCell_55 ?_
            refine v_isub X dX3_takeCell_57 ?_
            refine v_istore_n X (Nat.le_of_ble_eq_true rfl) rfl dX3_takeCell_58 ?_
            refine v_aload_n X rfl dX3_takeCell_59 ?_
            refine v_dup X rfl dX3_takeCell_60 ?_
            refine v_getf X (v := (.int ((wset W 8 (ct S (pp.1 + d, pp.2))).1 8 62))) fd_X3_29 (rd_Text γ _) rfl dX3_takeCell_61 ?_
            rw [ws_same, ct_62]
            refine v_iconst' X kc_1 dX3_takeCell_64 ?_
            refine v_iadd' X (nI_add _ _) dX3_takeCell_65 ?_
            refine v_putf X fp_X3_29 (rd_Text γ _) rfl rfl (Nat.le_of_ble_eq_true rfl) dX3_takeCell_66 ?_
            refine v_eqh (uq_tat γ _ _) ?_
            rw [ws_same, wset_wset, ct_u62]
            refine v_iinc' X rfl rfl (nI_inc _) dX3_takeCell_69 ?_
            refine v_goto (tgt := 23) X dX3_takeCell_72 (by decide) ?_
            exact (ih (d + 1) ⟨by omega, td_s q1 (by omega) hbd.2.1 q3, by omega⟩)
    exact (lp23 3 0 ⟨by omega, by omega, by omega⟩)
  · have hval : (-1001 : Int32) = c_cv S n pp := (if_neg q1).symm
    have hst : c_cell S n pp = pp := if_neg q1
    refine v_sipush' X ks_m1001 dX3_takeCell_10 ?_
    subst hQ0
    exact v_iret X rfl (Nat.le_of_ble_eq_true rfl) (Nat.le_of_ble_eq_true rfl) dX3_takeCell_13 ⟨so_some hval, by rw [hst]⟩
