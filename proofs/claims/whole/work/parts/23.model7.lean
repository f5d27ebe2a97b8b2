set_option maxHeartbeats 4000000 in
set_option maxRecDepth 100000 in
theorem c_X7_cell (l : Launch) (γ : Gm) (W : Wd) (S : Nat → Int32) (pp : Rd) (n : Nat) (hn : S 1 = nI n) (h60 : n ≤ 60) (hp : pp.1 ≤ 960) : Cr l γ yX7_cell cX7_cell 3 (some .int) 2 42 0 0 [.ref (γ.1 + 86)] (rdw γ (wset W 15 (st S pp))) (Det (some (.int (r_cv (W.1 13) n pp))) (rdw γ (wset W 15 (st S (r_cell (W.1 13) n pp))))) := by
  have ht2 := t_d_le (W.1 13) n pp
  have hb1 : (r_c1 (W.1 13) n pp).1 ≤ 1000 := by rw [r_c1_1]; omega
  have hb2 : (r_c2 (W.1 13) n pp).1 ≤ 1000 := by rw [r_c2_1]; omega
  refine Cr_of [some (.ref (γ.1 + 86)), none, none] (by decide +kernel) (Nat.le_of_ble_eq_true rfl) rfl ?_
  intro p e s m args below meth c X
  refine v_q0 (fun Q0 hQ0 => ?_)
  refine v_aload_n X rfl dX7_cell_0 ?_
  have jn60 : ∀ (d : Nat), d = t_d (W.1 13) n pp → V p l e { frames := 2, cells := 0, slots := 0, locals := 42 } s m args below meth c γ Q0 (rdw γ (wset W 15 (st S (pp.1 + d, pp.2)))) 0 0 60 [some (.ref (γ.1 + 86)), some (.int (nI pp.1)), some (.int (t_val (W.1 13) n pp.1 d))] [] := by
    intro d hd
    refine v_aload_n X rfl dX7_cell_60 ?_
    refine v_getf X (v := .int ((st S (pp.1 + d, pp.2)) 3)) fd_X7_44 (rd_Model γ _) rfl dX7_cell_61 ?_
    rw [st_3]
    refine v_iload_n X rfl dX7_cell_64 ?_
    refine v_icmp_eq_n (tgt := 74) X dX7_cell_65 (by decide) (by omega) (by omega) (fun q3 => ?_) (fun q3 => ?_)
    · have hE1 : (r_c1 (W.1 13) n pp) = r_fail (pp.1 + d, pp.2) (nI pp.1) := by unfold r_c1; rw [← hd, if_pos (Or.inl (by omega))]
      refine v_aload_n X rfl dX7_cell_74 ?_
      refine v_iload_n X rfl dX7_cell_75 ?_
      refine v_callV (ci := 8) X mv_X7_57 (c_X7_fails l γ _ S (pp.1 + d, pp.2) n hn h60 (by first | exact hb1 | exact hb2 | (dsimp only; omega)) _) rfl rfl (rd_Model γ _) rfl ⟨Nat.le_of_ble_eq_true rfl, Nat.le_of_ble_eq_true rfl, Nat.le_of_ble_eq_true rfl, Nat.le_of_ble_eq_true rfl⟩ (Nat.le_of_ble_eq_true rfl) rfl dX7_cell_76 rfl (det_v ?_)
      try simp (disch := decide) only [ws_11_10, ws_12_10, ws_12_11, ws_13_10, ws_13_11, ws_13_12, ws_14_10, ws_14_11, ws_14_12, ws_14_13, ws_15_10, ws_15_11, ws_15_12, ws_15_13, ws_15_14, wset_wset, ws_same, ws_ne, wh_ws]
      rw [← hE1]
      refine v_aload_n X rfl dX7_cell_79 ?_
      refine v_callV (ci := 8) X mv_X7_64 (c_X7_isDigit l γ _ S (r_c1 (W.1 13) n pp) n hn h60 (by first | exact hb1 | exact hb2 | (dsimp only; omega))) rfl rfl (rd_Model γ _) rfl ⟨Nat.le_of_ble_eq_true rfl, Nat.le_of_ble_eq_true rfl, Nat.le_of_ble_eq_true rfl, Nat.le_of_ble_eq_true rfl⟩ (Nat.le_of_ble_eq_true rfl) rfl dX7_cell_80 rfl (det_i ?_)
      try simp (disch := decide) only [ws_11_10, ws_12_10, ws_12_11, ws_13_10, ws_13_11, ws_13_12, ws_14_10, ws_14_11, ws_14_12, ws_14_13, ws_15_10, ws_15_11, ws_15_12, ws_15_13, ws_15_14, wset_wset, ws_same, ws_ne, wh_ws]
      refine v_if_eq_b (tgt := 94) X dX7_cell_83 (by decide) (fun q5 => ?_) (fun q5 => ?_)
      · have hE2 : (r_c2 (W.1 13) n pp) = (r_c1 (W.1 13) n pp) := by unfold r_c2; rw [if_neg q5]
        rw [← hE2]
        refine v_aload_n X rfl dX7_cell_94 ?_
        refine v_callV (ci := 8) X mv_X7_54 (c_X7_blanks l γ _ S (r_c2 (W.1 13) n pp) n hn h60 (by first | exact hb1 | exact hb2 | (dsimp only; omega))) rfl rfl (rd_Model γ _) rfl ⟨Nat.le_of_ble_eq_true rfl, Nat.le_of_ble_eq_true rfl, Nat.le_of_ble_eq_true rfl, Nat.le_of_ble_eq_true rfl⟩ (Nat.le_of_ble_eq_true rfl) rfl dX7_cell_95 rfl (det_v ?_)
        try simp (disch := decide) only [ws_11_10, ws_12_10, ws_12_11, ws_13_10, ws_13_11, ws_13_12, ws_14_10, ws_14_11, ws_14_12, ws_14_13, ws_15_10, ws_15_11, ws_15_12, ws_15_13, ws_15_14, wset_wset, ws_same, ws_ne, wh_ws]
        try dsimp only
        refine v_iload_n X rfl dX7_cell_98 ?_
        subst hQ0
        exact v_iret X rfl (Nat.le_of_ble_eq_true rfl) (Nat.le_of_ble_eq_true rfl) dX7_cell_99 ⟨so_some (by rw [hd]; rfl), rfl⟩
      · have hE2 : (r_c2 (W.1 13) n pp) = r_fail (r_c1 (W.1 13) n pp) (nI (r_c1 (W.1 13) n pp).1) := by unfold r_c2; rw [if_pos q5]
        refine v_aload_n X rfl dX7_cell_86 ?_
        refine v_aload_n X rfl dX7_cell_87 ?_
        refine v_getf X (v := .int ((st S (r_c1 (W.1 13) n pp)) 3)) fd_X7_44 (rd_Model γ _) rfl dX7_cell_88 ?_
        rw [st_3]
        refine v_callV (ci := 8) X mv_X7_57 (c_X7_fails l γ _ S (r_c1 (W.1 13) n pp) n hn h60 (by first | exact hb1 | exact hb2 | (dsimp only; omega)) _) rfl rfl (rd_Model γ _) rfl ⟨Nat.le_of_ble_eq_true rfl, Nat.le_of_ble_eq_true rfl, Nat.le_of_ble_eq_true rfl, Nat.le_of_ble_eq_true rfl⟩ (Nat.le_of_ble_eq_true rfl) rfl dX7_cell_91 rfl (det_v ?_)
        try simp (disch := decide) only [ws_11_10, ws_12_10, ws_12_11, ws_13_10, ws_13_11, ws_13_12, ws_14_10, ws_14_11, ws_14_12, ws_14_13, ws_15_10, ws_15_11, ws_15_12, ws_15_13, ws_15_14, wset_wset, ws_same, ws_ne, wh_ws]
        rw [← hE2]
        refine v_aload_n X rfl dX7_cell_94 ?_
        refine v_callV (ci := 8) X mv_X7_54 (c_X7_blanks l γ _ S (r_c2 (W.1 13) n pp) n hn h60 (by first | exact hb1 | exact hb2 | (dsimp only; omega))) rfl rfl (rd_Model γ _) rfl ⟨Nat.le_of_ble_eq_true rfl, Nat.le_of_ble_eq_true rfl, Nat.le_of_ble_eq_true rfl, Nat.le_of_ble_eq_true rfl⟩ (Nat.le_of_ble_eq_true rfl) rfl dX7_cell_95 rfl (det_v ?_)
        try simp (disch := decide) only [ws_11_10, ws_12_10, ws_12_11, ws_13_10, ws_13_11, ws_13_12, ws_14_10, ws_14_11, ws_14_12, ws_14_13, ws_15_10, ws_15_11, ws_15_12, ws_15_13, ws_15_14, wset_wset, ws_same, ws_ne, wh_ws]
        try dsimp only
        refine v_iload_n X rfl dX7_cell_98 ?_
        subst hQ0
        exact v_iret X rfl (Nat.le_of_ble_eq_true rfl) (Nat.le_of_ble_eq_true rfl) dX7_cell_99 ⟨so_some (by rw [hd]; rfl), rfl⟩
    · refine v_iload_n X rfl dX7_cell_68 ?_
      refine v_bipush' X kb_40 dX7_cell_69 ?_
      refine v_icmp_lt (tgt := 79) X dX7_cell_71 (by decide) (fun q4 => ?_) (fun q4 => ?_)
      · have hE1 : (r_c1 (W.1 13) n pp) = (pp.1 + d, pp.2) := by unfold r_c1; rw [← hd, if_neg (fun z => z.elim (fun z => q3 (by omega)) (fun z => z q4))]
        rw [← hE1]
        refine v_aload_n X rfl dX7_cell_79 ?_
        refine v_callV (ci := 8) X mv_X7_64 (c_X7_isDigit l γ _ S (r_c1 (W.1 13) n pp) n hn h60 (by first | exact hb1 | exact hb2 | (dsimp only; omega))) rfl rfl (rd_Model γ _) rfl ⟨Nat.le_of_ble_eq_true rfl, Nat.le_of_ble_eq_true rfl, Nat.le_of_ble_eq_true rfl, Nat.le_of_ble_eq_true rfl⟩ (Nat.le_of_ble_eq_true rfl) rfl dX7_cell_80 rfl (det_i ?_)
        try simp (disch := decide) only [ws_11_10, ws_12_10, ws_12_11, ws_13_10, ws_13_11, ws_13_12, ws_14_10, ws_14_11, ws_14_12, ws_14_13, ws_15_10, ws_15_11, ws_15_12, ws_15_13, ws_15_14, wset_wset, ws_same, ws_ne, wh_ws]
        refine v_if_eq_b (tgt := 94) X dX7_cell_83 (by decide) (fun q5 => ?_) (fun q5 => ?_)
        · have hE2 : (r_c2 (W.1 13) n pp) = (r_c1 (W.1 13) n pp) := by unfold r_c2; rw [if_neg q5]
          rw [← hE2]
          refine v_aload_n X rfl dX7_cell_94 ?_
          refine v_callV (ci := 8) X mv_X7_54 (c_X7_blanks l γ _ S (r_c2 (W.1 13) n pp) n hn h60 (by first | exact hb1 | exact hb2 | (dsimp only; omega))) rfl rfl (rd_Model γ _) rfl ⟨Nat.le_of_ble_eq_true rfl, Nat.le_of_ble_eq_true rfl, Nat.le_of_ble_eq_true rfl, Nat.le_of_ble_eq_true rfl⟩ (Nat.le_of_ble_eq_true rfl) rfl dX7_cell_95 rfl (det_v ?_)
          try simp (disch := decide) only [ws_11_10, ws_12_10, ws_12_11, ws_13_10, ws_13_11, ws_13_12, ws_14_10, ws_14_11, ws_14_12, ws_14_13, ws_15_10, ws_15_11, ws_15_12, ws_15_13, ws_15_14, wset_wset, ws_same, ws_ne, wh_ws]
          try dsimp only
          refine v_iload_n X rfl dX7_cell_98 ?_
          subst hQ0
          exact v_iret X rfl (Nat.le_of_ble_eq_true rfl) (Nat.le_of_ble_eq_true rfl) dX7_cell_99 ⟨so_some (by rw [hd]; rfl), rfl⟩
        · have hE2 : (r_c2 (W.1 13) n pp) = r_fail (r_c1 (W.1 13) n pp) (nI (r_c1 (W.1 13) n pp).1) := by unfold r_c2; rw [if_pos q5]
          refine v_aload_n X rfl dX7_cell_86 ?_
          refine v_aload_n X rfl dX7_cell_87 ?_
          refine v_getf X (v := .int ((st S (r_c1 (W.1 13) n pp)) 3)) fd_X7_44 (rd_Model γ _) rfl dX7_cell_88 ?_
          rw [st_3]
          refine v_callV (ci := 8) X mv_X7_57 (c_X7_fails l γ _ S (r_c1 (W.1 13) n pp) n hn h60 (by first | exact hb1 | exact hb2 | (dsimp only; omega)) _) rfl rfl (rd_Model γ _) rfl ⟨Nat.le_of_ble_eq_true rfl, Nat.le_of_ble_eq_true rfl, Nat.le_of_ble_eq_true rfl, Nat.le_of_ble_eq_true rfl⟩ (Nat.le_of_ble_eq_true rfl) rfl dX7_cell_91 rfl (det_v ?_)
          try simp (disch := decide) only [ws_11_10, ws_12_10, ws_12_11, ws_13_10, ws_13_11, ws_13_12, ws_14_10, ws_14_11, ws_14_12, ws_14_13, ws_15_10, ws_15_11, ws_15_12, ws_15_13, ws_15_14, wset_wset, ws_same, ws_ne, wh_ws]
          rw [← hE2]
          refine v_aload_n X rfl dX7_cell_94 ?_
          refine v_callV (ci := 8) X mv_X7_54 (c_X7_blanks l γ _ S (r_c2 (W.1 13) n pp) n hn h60 (by first | exact hb1 | exact hb2 | (dsimp only; omega))) rfl rfl (rd_Model γ _) rfl ⟨Nat.le_of_ble_eq_true rfl, Nat.le_of_ble_eq_true rfl, Nat.le_of_ble_eq_true rfl, Nat.le_of_ble_eq_true rfl⟩ (Nat.le_of_ble_eq_true rfl) rfl dX7_cell_95 rfl (det_v ?_)
          try simp (disch := decide) only [ws_11_10, ws_12_10, ws_12_11, ws_13_10, ws_13_11, ws_13_12, ws_14_10, ws_14_11, ws_14_12, ws_14_13, ws_15_10, ws_15_11, ws_15_12, ws_15_13, ws_15_14, wset_wset, ws_same, ws_ne, wh_ws]
          try dsimp only
          refine v_iload_n X rfl dX7_cell_98 ?_
          subst hQ0
          exact v_iret X rfl (Nat.le_of_ble_eq_true rfl) (Nat.le_of_ble_eq_true rfl) dX7_cell_99 ⟨so_some (by rw [hd]; rfl), rfl⟩
      · have hE1 : (r_c1 (W.1 13) n pp) = r_fail (pp.1 + d, pp.2) (nI pp.1) := by unfold r_c1; rw [← hd, if_pos (Or.inr q4)]
        refine v_aload_n X rfl dX7_cell_74 ?_
        refine v_iload_n X rfl dX7_cell_75 ?_
        refine v_callV (ci := 8) X mv_X7_57 (c_X7_fails l γ _ S (pp.1 + d, pp.2) n hn h60 (by first | exact hb1 | exact hb2 | (dsimp only; omega)) _) rfl rfl (rd_Model γ _) rfl ⟨Nat.le_of_ble_eq_true rfl, Nat.le_of_ble_eq_true rfl, Nat.le_of_ble_eq_true rfl, Nat.le_of_ble_eq_true rfl⟩ (Nat.le_of_ble_eq_true rfl) rfl dX7_cell_76 rfl (det_v ?_)
        try simp (disch := decide) only [ws_11_10, ws_12_10, ws_12_11, ws_13_10, ws_13_11, ws_13_12, ws_14_10, ws_14_11, ws_14_12, ws_14_13, ws_15_10, ws_15_11, ws_15_12, ws_15_13, ws_15_14, wset_wset, ws_same, ws_ne, wh_ws]
        rw [← hE1]
        refine v_aload_n X rfl dX7_cell_79 ?_
        refine v_callV (ci := 8) X mv_X7_64 (c_X7_isDigit l γ _ S (r_c1 (W.1 13) n pp) n hn h60 (by first | exact hb1 | exact hb2 | (dsimp only; omega))) rfl rfl (rd_Model γ _) rfl ⟨Nat.le_of_ble_eq_true rfl, Nat.le_of_ble_eq_true rfl, Nat.le_of_ble_eq_true rfl, Nat.le_of_ble_eq_true rfl⟩ (Nat.le_of_ble_eq_true rfl) rfl dX7_cell_80 rfl (det_i ?_)
        try simp (disch := decide) only [ws_11_10, ws_12_10, ws_12_11, ws_13_10, ws_13_11, ws_13_12, ws_14_10, ws_14_11, ws_14_12, ws_14_13, ws_15_10, ws_15_11, ws_15_12, ws_15_13, ws_15_14, wset_wset, ws_same, ws_ne, wh_ws]
        refine v_if_eq_b (tgt := 94) X dX7_cell_83 (by decide) (fun q5 => ?_) (fun q5 => ?_)
        · have hE2 : (r_c2 (W.1 13) n pp) = (r_c1 (W.1 13) n pp) := by unfold r_c2; rw [if_neg q5]
          rw [← hE2]
          refine v_aload_n X rfl dX7_cell_94 ?_
          refine v_callV (ci := 8) X mv_X7_54 (c_X7_blanks l γ _ S (r_c2 (W.1 13) n pp) n hn h60 (by first | exact hb1 | exact hb2 | (dsimp only; omega))) rfl rfl (rd_Model γ _) rfl ⟨Nat.le_of_ble_eq_true rfl, Nat.le_of_ble_eq_true rfl, Nat.le_of_ble_eq_true rfl, Nat.le_of_ble_eq_true rfl⟩ (Nat.le_of_ble_eq_true rfl) rfl dX7_cell_95 rfl (det_v ?_)
          try simp (disch := decide) only [ws_11_10, ws_12_10, ws_12_11, ws_13_10, ws_13_11, ws_13_12, ws_14_10, ws_14_11, ws_14_12, ws_14_13, ws_15_10, ws_15_11, ws_15_12, ws_15_13, ws_15_14, wset_wset, ws_same, ws_ne, wh_ws]
          try dsimp only
          refine v_iload_n X rfl dX7_cell_98 ?_
          subst hQ0
          exact v_iret X rfl (Nat.le_of_ble_eq_true rfl) (Nat.le_of_ble_eq_true rfl) dX7_cell_99 ⟨so_some (by rw [hd]; rfl), rfl⟩
        · have hE2 : (r_c2 (W.1 13) n pp) = r_fail (r_c1 (W.1 13) n pp) (nI (r_c1 (W.1 13) n pp).1) := by unfold r_c2; rw [if_pos q5]
          refine v_aload_n X rfl dX7_cell_86 ?_
          refine v_aload_n X rfl dX7_cell_87 ?_
          refine v_getf X (v := .int ((st S (r_c1 (W.1 13) n pp)) 3)) fd_X7_44 (rd_Model γ _) rfl dX7_cell_88 ?_
          rw [st_3]
          refine v_callV (ci := 8) X mv_X7_57 (c_X7_fails l γ _ S (r_c1 (W.1 13) n pp) n hn h60 (by first | exact hb1 | exact hb2 | (dsimp only; omega)) _) rfl rfl (rd_Model γ _) rfl ⟨Nat.le_of_ble_eq_true rfl, Nat.le_of_ble_eq_true rfl, Nat.le_of_ble_eq_true rfl, Nat.le_of_ble_eq_true rfl⟩ (Nat.le_of_ble_eq_true rfl) rfl dX7_cell_91 rfl (det_v ?_)
          try simp (disch := decide) only [ws_11_10, ws_12_10, ws_12_11, ws_13_10, ws_13_11, ws_13_12, ws_14_10, ws_14_11, ws_14_12, ws_14_13, ws_15_10, ws_15_11, ws_15_12, ws_15_13, ws_15_14, wset_wset, ws_same, ws_ne, wh_ws]
          rw [← hE2]
          refine v_aload_n X rfl dX7_cell_94 ?_
          refine v_callV (ci := 8) X mv_X7_54 (c_X7_blanks l γ _ S (r_c2 (W.1 13) n pp) n hn h60 (by first | exact hb1 | exact hb2 | (dsimp only; omega))) rfl rfl (rd_Model γ _) rfl ⟨Nat.le_of_ble_eq_true rfl, Nat.le_of_ble_eq_true rfl, Nat.le_of_ble_eq_true rfl, Nat.le_of_ble_eq_true rfl⟩ (Nat.le_of_ble_eq_true rfl) rfl dX7_cell_95 rfl (det_v ?_)
          try simp (disch := decide) only [ws_11_10, ws_12_10, ws_12_11, ws_13_10, ws_13_11, ws_13_12, ws_14_10, ws_14_11, ws_14_12, ws_14_13, ws_15_10, ws_15_11, ws_15_12, ws_15_13, ws_15_14, wset_wset, ws_same, ws_ne, wh_ws]
          try dsimp only
          refine v_iload_n X rfl dX7_cell_98 ?_
          subst hQ0
          exact v_iret X rfl (Nat.le_of_ble_eq_true rfl) (Nat.le_of_ble_eq_true rfl) dX7_cell_99 ⟨so_some (by rw [hd]; rfl), rfl⟩
  refine v_getf X (v := .int ((st S pp) 3)) fd_X7_44 (rd_Model γ _) rfl dX7_cell_1 ?_
  rw [st_3]
  refine v_istore_n X (Nat.le_of_ble_eq_true rfl) rfl dX7_cell_4 ?_
  refine v_iconst' X kc_0 dX7_cell_5 ?_
  refine v_istore_n X (Nat.le_of_ble_eq_true rfl) rfl dX7_cell_6 ?_
  have lp7 : ∀ (m0 : Nat) (d : Nat), d ≤ 2 ∧ 3 ≤ d + m0 → (d = 0 ∨ pp.2 = (-1001)) → (∀ j, j < d → t_dg (W.1 13) n (pp.1 + j)) → V p l e { frames := 2, cells := 0, slots := 0, locals := 42 } s m args below meth c γ Q0 (rdw γ (wset W 15 (st S (pp.1 + d, pp.2)))) 0 0 7 [some (.ref (γ.1 + 86)), some (.int (nI pp.1)), some (.int (t_val (W.1 13) n pp.1 d))] [] := by
    intro m0
    induction m0 with
    | zero =>
      intro d hbd
      exact absurd hbd (by omega)
    | succ m0 ih =>
      intro d hbd hz hj
      refine v_aload_n X rfl dX7_cell_7 ?_
      refine v_getf X (v := .int ((st S (pp.1 + d, pp.2)) 4)) fd_X7_51 (rd_Model γ _) rfl dX7_cell_8 ?_
      rw [st_4]
      refine v_sipush' X ks_m1001 dX7_cell_11 ?_
      refine v_icmp_ne (tgt := 60) X dX7_cell_14 (by decide) (fun q1 => ?_) (fun q1 => ?_)
      · have hd : d = t_d (W.1 13) n pp := by unfold t_d; rw [if_neg q1]; exact hz.resolve_right q1
        exact (jn60 d hd)
      · refine v_aload_n X rfl dX7_cell_17 ?_
        refine v_getf X (v := .int ((st S (pp.1 + d, pp.2)) 3)) fd_X7_44 (rd_Model γ _) rfl dX7_cell_18 ?_
        rw [st_3]
        refine v_iload_n X rfl dX7_cell_21 ?_
        refine v_iconst' X kc_2 dX7_cell_22 ?_
        refine v_iadd' X (nI_add _ _) dX7_cell_23 ?_
        refine v_icmp_ge_n (tgt := 60) X dX7_cell_24 (by decide) (by omega) (by omega) (fun q2 => ?_) (fun q2 => ?_)
        · have hd2 : d = 2 := by omega
          have hd : d = t_d (W.1 13) n pp := by unfold t_d; rw [if_pos q1, if_pos (show t_dg (W.1 13) n pp.1 from hj 0 (by omega)), if_pos (hj 1 (by omega))]; exact hd2
          exact (jn60 d hd)
        · refine v_aload_n X rfl dX7_cell_27 ?_
          refine v_callV (ci := 8) X mv_X7_64 (c_X7_isDigit l γ _ S (pp.1 + d, pp.2) n hn h60 (by first | exact hb1 | exact hb2 | (dsimp only; omega))) rfl rfl (rd_Model γ _) rfl ⟨Nat.le_of_ble_eq_true rfl, Nat.le_of_ble_eq_true rfl, Nat.le_of_ble_eq_true rfl, Nat.le_of_ble_eq_true rfl⟩ (Nat.le_of_ble_eq_true rfl) rfl dX7_cell_28 rfl (det_i ?_)
          try simp (disch := decide) only [ws_11_10, ws_12_10, ws_12_11, ws_13_10, ws_13_11, ws_13_12, ws_14_10, ws_14_11, ws_14_12, ws_14_13, ws_15_10, ws_15_11, ws_15_12, ws_15_13, ws_15_14, wset_wset, ws_same, ws_ne, wh_ws]
          refine v_if_eq_b (tgt := 60) X dX7_cell_31 (by decide) (fun q3 => ?_) (fun q3 => ?_)
          · have hd : d = t_d (W.1 13) n pp := by
              unfold t_d
              rw [if_pos q1]
              rcases (by omega : d = 0 ∨ d = 1) with rfl | rfl
              · rw [if_neg (show ¬ t_dg (W.1 13) n pp.1 from q3)]
              · rw [if_pos (show t_dg (W.1 13) n pp.1 from hj 0 (by omega)), if_neg q3]
            exact (jn60 d hd)
          · refine v_bipush' X kb_10 dX7_cell_34 ?_
            refine v_iload_n X rfl dX7_cell_36 ?_
            refine v_imul X dX7_cell_37 ?_
            refine v_aload_n X rfl dX7_cell_38 ?_
            refine v_callV (ci := 8) X mv_X7_47 (c_X7_next l γ _ S (pp.1 + d, pp.2) n hn h60 (by first | exact hb1 | exact hb2 | (dsimp only; omega))) rfl rfl (rd_Model γ _) rfl ⟨Nat.le_of_ble_eq_true rfl, Nat.le_of_ble_eq_true rfl, Nat.le_of_ble_eq_true rfl, Nat.le_of_ble_eq_true rfl⟩ (Nat.le_of_ble_eq_true rfl) rfl dX7_cell_39 rfl (det_i ?_)
            try simp (disch := decide) only [ws_11_10, ws_12_10, ws_12_11, ws_13_10, ws_13_11, ws_13_12, ws_14_10, ws_14_11, ws_14_12, ws_14_13, ws_15_10, ws_15_11, ws_15_12, ws_15_13, ws_15_14, wset_wset, ws_same, ws_ne, wh_ws]
            refine v_iadd X dX7_cell_42 ?_
            refine v_bipush' X kb_48 dX7_cell_43 ?_
            refine v_isub X dX7_cell_45 ?_
            refine v_istore_n X (Nat.le_of_ble_eq_true rfl) rfl dX7_cell_46 ?_
            refine v_aload_n X rfl dX7_cell_47 ?_
            refine v_dup X rfl dX7_cell_48 ?_
            refine v_getf X (v := .int ((st S (pp.1 + d, pp.2)) 3)) fd_X7_44 (rd_Model γ _) rfl dX7_cell_49 ?_
            rw [st_3]
            refine v_iconst' X kc_1 dX7_cell_52 ?_
            refine v_iadd' X (nI_add _ _) dX7_cell_53 ?_
            refine v_putf X fp_X7_44 (rd_Model γ _) rfl rfl (Nat.le_of_ble_eq_true rfl) dX7_cell_54 ?_
            refine v_eqh (uq_at γ _ _) ?_
            try simp (disch := decide) only [ws_11_10, ws_12_10, ws_12_11, ws_13_10, ws_13_11, ws_13_12, ws_14_10, ws_14_11, ws_14_12, ws_14_13, ws_15_10, ws_15_11, ws_15_12, ws_15_13, ws_15_14, wset_wset, ws_same, ws_ne, wh_ws]
            rw [st_u3]
            refine v_goto (tgt := 7) X dX7_cell_57 (by decide) ?_
            have hy := ih (d + 1) ⟨by omega, by omega⟩ (Or.inr q1) (fun j hj2 => by rcases Nat.lt_or_ge j d with z | z; exact hj j z; rw [show j = d by omega]; exact q3)
            exact (hy)
  exact (lp7 3 0 ⟨by omega, by omega⟩ (Or.inl rfl) (fun j hj => absurd hj (Nat.not_lt_zero j)))
theorem r_all_stop {T : Nat → Int32} {n f : Nat} {x : RX} (h : ¬ (x.1.2 = (-1001) ∧ x.1.1 < n)) : r_all T n f x = x := by
  cases f
  · rfl
  · show (if _ then _ else _) = _
    rw [if_neg h]
set_option maxHeartbeats 4000000 in
set_option maxRecDepth 100000 in
theorem c_X7_readsOrder (l : Launch) (γ : Gm) (W : Wd) (S : Nat → Int32) (pp : Rd) (n : Nat) (hn : S 1 = nI n) (h60 : n ≤ 60) (hp : pp.1 ≤ 500) (g : Nat) (hg : S 2 = nI g) (h15 : g ≤ 15) : Cr l γ yX7_readsOrder cX7_readsOrder 3 none 4 84 0 0 [.ref (γ.1 + 86)] (rdw γ (wset W 15 (st S pp))) (Det none (rdw γ (wset (wset W 14 (r_row (W.1 13) n pp (W.1 14) (5 * g))) 15 (st (upd S 2 (nI (g + 1))) (r_7 (W.1 13) n pp))))) := by
  obtain ⟨b1, b2, b3, b4, b5, b6, b7⟩ := r_bs (W.1 13) n pp (B := 500) hp (by omega)
  refine Cr_of [some (.ref (γ.1 + 86)), none, none] (by decide +kernel) (Nat.le_of_ble_eq_true rfl) rfl ?_
  intro p e s m args below meth c X
  refine v_q0 (fun Q0 hQ0 => ?_)
  refine v_iconst' X kc_5 dX7_readsOrder_0 ?_
  refine v_aload_n X rfl dX7_readsOrder_1 ?_
  refine v_getf X (v := .int ((st S pp) 2)) fd_X7_68 (rd_Model γ _) rfl dX7_readsOrder_2 ?_
  rw [st_o S _ (by decide : (2 : Nat) ≠ 3) (by decide), hg]
  refine v_imul' X (pk_mul _ _) dX7_readsOrder_5 ?_
  refine v_istore_n X (Nat.le_of_ble_eq_true rfl) rfl dX7_readsOrder_6 ?_
  refine v_aload_n X rfl dX7_readsOrder_7 ?_
  refine v_aload_n X rfl dX7_readsOrder_8 ?_
  refine v_callV (ci := 8) X mv_X7_47 (c_X7_next l γ _ S pp n hn h60 (by omega)) rfl rfl (rd_Model γ _) rfl ⟨Nat.le_of_ble_eq_true rfl, Nat.le_of_ble_eq_true rfl, Nat.le_of_ble_eq_true rfl, Nat.le_of_ble_eq_true rfl⟩ (Nat.le_of_ble_eq_true rfl) rfl dX7_readsOrder_9 rfl (det_i ?_)
  try simp (disch := decide) only [ws_11_10, ws_12_10, ws_12_11, ws_13_10, ws_13_11, ws_13_12, ws_14_10, ws_14_11, ws_14_12, ws_14_13, ws_15_10, ws_15_11, ws_15_12, ws_15_13, ws_15_14, wset_wset, ws_same, ws_ne, wh_ws]
  refine v_bipush' X kb_64 dX7_readsOrder_12 ?_
  have jn22 : ∀ (u : Int32), u = (bi (t_nx (W.1 13) n pp.1 = nI 64)) → V p l e { frames := 4, cells := 0, slots := 0, locals := 84 } s m args below meth c γ Q0 (rdw γ (wset W 15 (st S pp))) 0 0 22 [some (.ref (γ.1 + 86)), some (.int (nI (5 * g))), none] [.int u, .ref (γ.1 + 86)] := by
    intro u hu
    subst hu
    refine v_callV (ci := 8) X mv_X7_60 (c_X7_needs l γ _ S pp n hn h60 (by omega) _) rfl rfl (rd_Model γ _) rfl ⟨Nat.le_of_ble_eq_true rfl, Nat.le_of_ble_eq_true rfl, Nat.le_of_ble_eq_true rfl, Nat.le_of_ble_eq_true rfl⟩ (Nat.le_of_ble_eq_true rfl) rfl dX7_readsOrder_22 rfl (det_v ?_)
    try simp (disch := decide) only [ws_11_10, ws_12_10, ws_12_11, ws_13_10, ws_13_11, ws_13_12, ws_14_10, ws_14_11, ws_14_12, ws_14_13, ws_15_10, ws_15_11, ws_15_12, ws_15_13, ws_15_14, wset_wset, ws_same, ws_ne, wh_ws]
    refine v_aload_n X rfl dX7_readsOrder_25 ?_
    refine v_getf X fd_X7_22 (rd_Model γ _) rfl dX7_readsOrder_26 ?_
    refine v_iload_n X rfl dX7_readsOrder_29 ?_
    refine v_aload_n X rfl dX7_readsOrder_30 ?_
    refine v_callV (ci := 8) X mv_X7_71 (c_X7_cell l γ _ S (r_1 (W.1 13) n pp) n hn h60 (by omega)) rfl rfl (rd_Model γ _) rfl ⟨Nat.le_of_ble_eq_true rfl, Nat.le_of_ble_eq_true rfl, Nat.le_of_ble_eq_true rfl, Nat.le_of_ble_eq_true rfl⟩ (Nat.le_of_ble_eq_true rfl) rfl dX7_readsOrder_31 rfl (det_i ?_)
    try simp (disch := decide) only [ws_11_10, ws_12_10, ws_12_11, ws_13_10, ws_13_11, ws_13_12, ws_14_10, ws_14_11, ws_14_12, ws_14_13, ws_15_10, ws_15_11, ws_15_12, ws_15_13, ws_15_14, wset_wset, ws_same, ws_ne, wh_ws]
    refine v_iast X (rd_Read γ _) ((5 * g)) rfl (by omega) (by decide) dX7_readsOrder_34 ?_
    refine v_eqh (uq_Read γ _ (by omega) _) ?_
    try simp (disch := decide) only [ws_11_10, ws_12_10, ws_12_11, ws_13_10, ws_13_11, ws_13_12, ws_14_10, ws_14_11, ws_14_12, ws_14_13, ws_15_10, ws_15_11, ws_15_12, ws_15_13, ws_15_14, wset_wset, ws_same, ws_ne, wh_ws]
    refine v_aload_n X rfl dX7_readsOrder_35 ?_
    refine v_callV (ci := 8) X mv_X7_47 (c_X7_next l γ _ S (r_2 (W.1 13) n pp) n hn h60 (by omega)) rfl rfl (rd_Model γ _) rfl ⟨Nat.le_of_ble_eq_true rfl, Nat.le_of_ble_eq_true rfl, Nat.le_of_ble_eq_true rfl, Nat.le_of_ble_eq_true rfl⟩ (Nat.le_of_ble_eq_true rfl) rfl dX7_readsOrder_36 rfl (det_i ?_)
    try simp (disch := decide) only [ws_11_10, ws_12_10, ws_12_11, ws_13_10, ws_13_11, ws_13_12, ws_14_10, ws_14_11, ws_14_12, ws_14_13, ws_15_10, ws_15_11, ws_15_12, ws_15_13, ws_15_14, wset_wset, ws_same, ws_ne, wh_ws]
    refine v_istore_n X (Nat.le_of_ble_eq_true rfl) rfl dX7_readsOrder_39 ?_
    refine v_aload_n X rfl dX7_readsOrder_40 ?_
    refine v_iload_n X rfl dX7_readsOrder_41 ?_
    refine v_bipush' X kb_111 dX7_readsOrder_42 ?_
    have jn64 : ∀ (u : Int32), u = (bi (t_isK (r_k (W.1 13) n pp))) → V p l e { frames := 4, cells := 0, slots := 0, locals := 84 } s m args below meth c γ Q0 (rdw γ (wset (wset W 14 (upd (W.1 14) (5 * g) (r_v0 (W.1 13) n pp))) 15 (st S (r_2 (W.1 13) n pp)))) 0 0 64 [some (.ref (γ.1 + 86)), some (.int (nI (5 * g))), some (.int (r_k (W.1 13) n pp))] [.int u, .ref (γ.1 + 86)] := by
      intro u hu
      subst hu
      refine v_callV (ci := 8) X mv_X7_60 (c_X7_needs l γ _ S (r_2 (W.1 13) n pp) n hn h60 (by omega) _) rfl rfl (rd_Model γ _) rfl ⟨Nat.le_of_ble_eq_true rfl, Nat.le_of_ble_eq_true rfl, Nat.le_of_ble_eq_true rfl, Nat.le_of_ble_eq_true rfl⟩ (Nat.le_of_ble_eq_true rfl) rfl dX7_readsOrder_64 rfl (det_v ?_)
      try simp (disch := decide) only [ws_11_10, ws_12_10, ws_12_11, ws_13_10, ws_13_11, ws_13_12, ws_14_10, ws_14_11, ws_14_12, ws_14_13, ws_15_10, ws_15_11, ws_15_12, ws_15_13, ws_15_14, wset_wset, ws_same, ws_ne, wh_ws]
      refine v_aload_n X rfl dX7_readsOrder_67 ?_
      refine v_getf X fd_X7_22 (rd_Model γ _) rfl dX7_readsOrder_68 ?_
      refine v_iload_n X rfl dX7_readsOrder_71 ?_
      refine v_iconst' X kc_1 dX7_readsOrder_72 ?_
      refine v_iadd' X (nI_add _ _) dX7_readsOrder_73 ?_
      refine v_iload_n X rfl dX7_readsOrder_74 ?_
      refine v_bipush' X kb_111 dX7_readsOrder_75 ?_
      have jn95 : ∀ (u : Int32), u = (t_kno (r_k (W.1 13) n pp)) → V p l e { frames := 4, cells := 0, slots := 0, locals := 84 } s m args below meth c γ Q0 (rdw γ (wset (wset W 14 (upd (W.1 14) (5 * g) (r_v0 (W.1 13) n pp))) 15 (st S (r_3 (W.1 13) n pp)))) 0 0 95 [some (.ref (γ.1 + 86)), some (.int (nI (5 * g))), some (.int (r_k (W.1 13) n pp))] [.int u, .int (nI (5 * g + 1)), .ref (γ.1 + 91)] := by
        intro u hu
        subst hu
        refine v_iast X (rd_Read γ _) ((5 * g + 1)) rfl (by omega) (by decide) dX7_readsOrder_95 ?_
        refine v_eqh (uq_Read γ _ (by omega) _) ?_
        try simp (disch := decide) only [ws_11_10, ws_12_10, ws_12_11, ws_13_10, ws_13_11, ws_13_12, ws_14_10, ws_14_11, ws_14_12, ws_14_13, ws_15_10, ws_15_11, ws_15_12, ws_15_13, ws_15_14, wset_wset, ws_same, ws_ne, wh_ws]
        refine v_aload_n X rfl dX7_readsOrder_96 ?_
        refine v_getf X fd_X7_22 (rd_Model γ _) rfl dX7_readsOrder_97 ?_
        refine v_iload_n X rfl dX7_readsOrder_100 ?_
        refine v_iconst' X kc_2 dX7_readsOrder_101 ?_
        refine v_iadd' X (nI_add _ _) dX7_readsOrder_102 ?_
        refine v_iload_n X rfl dX7_readsOrder_103 ?_
        refine v_bipush' X kb_118 dX7_readsOrder_104 ?_
        have jn121 : ∀ (u : Int32), u = (r_v2 (W.1 13) n pp) → V p l e { frames := 4, cells := 0, slots := 0, locals := 84 } s m args below meth c γ Q0 (rdw γ (wset (wset W 14 (upd (upd (W.1 14) (5 * g) (r_v0 (W.1 13) n pp)) (5 * g + 1) (r_v1 (W.1 13) n pp))) 15 (st S (r_4 (W.1 13) n pp)))) 0 0 121 [some (.ref (γ.1 + 86)), some (.int (nI (5 * g))), some (.int (r_k (W.1 13) n pp))] [.int u, .int (nI (5 * g + 2)), .ref (γ.1 + 91)] := by
          intro u hu
          subst hu
          refine v_iast X (rd_Read γ _) ((5 * g + 2)) rfl (by omega) (by decide) dX7_readsOrder_121 ?_
          refine v_eqh (uq_Read γ _ (by omega) _) ?_
          try simp (disch := decide) only [ws_11_10, ws_12_10, ws_12_11, ws_13_10, ws_13_11, ws_13_12, ws_14_10, ws_14_11, ws_14_12, ws_14_13, ws_15_10, ws_15_11, ws_15_12, ws_15_13, ws_15_14, wset_wset, ws_same, ws_ne, wh_ws]
          refine v_aload_n X rfl dX7_readsOrder_122 ?_
          refine v_getf X fd_X7_22 (rd_Model γ _) rfl dX7_readsOrder_123 ?_
          refine v_iload_n X rfl dX7_readsOrder_126 ?_
          refine v_iconst' X kc_3 dX7_readsOrder_127 ?_
          refine v_iadd' X (nI_add _ _) dX7_readsOrder_128 ?_
          refine v_iload_n X rfl dX7_readsOrder_129 ?_
          refine v_bipush' X kb_118 dX7_readsOrder_130 ?_
          have jn145 : ∀ (u : Int32), u = (r_v3 (W.1 13) n pp) → V p l e { frames := 4, cells := 0, slots := 0, locals := 84 } s m args below meth c γ Q0 (rdw γ (wset (wset W 14 (upd (upd (upd (W.1 14) (5 * g) (r_v0 (W.1 13) n pp)) (5 * g + 1) (r_v1 (W.1 13) n pp)) (5 * g + 2) (r_v2 (W.1 13) n pp))) 15 (st S (r_5 (W.1 13) n pp)))) 0 0 145 [some (.ref (γ.1 + 86)), some (.int (nI (5 * g))), some (.int (r_k (W.1 13) n pp))] [.int u, .int (nI (5 * g + 3)), .ref (γ.1 + 91)] := by
            intro u hu
            subst hu
            refine v_iast X (rd_Read γ _) ((5 * g + 3)) rfl (by omega) (by decide) dX7_readsOrder_145 ?_
            refine v_eqh (uq_Read γ _ (by omega) _) ?_
            try simp (disch := decide) only [ws_11_10, ws_12_10, ws_12_11, ws_13_10, ws_13_11, ws_13_12, ws_14_10, ws_14_11, ws_14_12, ws_14_13, ws_15_10, ws_15_11, ws_15_12, ws_15_13, ws_15_14, wset_wset, ws_same, ws_ne, wh_ws]
            refine v_aload_n X rfl dX7_readsOrder_146 ?_
            refine v_getf X fd_X7_22 (rd_Model γ _) rfl dX7_readsOrder_147 ?_
            refine v_iload_n X rfl dX7_readsOrder_150 ?_
            refine v_iconst' X kc_4 dX7_readsOrder_151 ?_
            refine v_iadd' X (nI_add _ _) dX7_readsOrder_152 ?_
            refine v_iload_n X rfl dX7_readsOrder_153 ?_
            refine v_bipush' X kb_111 dX7_readsOrder_154 ?_
            have jn186 : ∀ (u : Int32), u = (r_v4 (W.1 13) n pp) → V p l e { frames := 4, cells := 0, slots := 0, locals := 84 } s m args below meth c γ Q0 (rdw γ (wset (wset W 14 (upd (upd (upd (upd (W.1 14) (5 * g) (r_v0 (W.1 13) n pp)) (5 * g + 1) (r_v1 (W.1 13) n pp)) (5 * g + 2) (r_v2 (W.1 13) n pp)) (5 * g + 3) (r_v3 (W.1 13) n pp))) 15 (st S (r_6 (W.1 13) n pp)))) 0 0 186 [some (.ref (γ.1 + 86)), some (.int (nI (5 * g))), some (.int (r_k (W.1 13) n pp))] [.int u, .int (nI (5 * g + 4)), .ref (γ.1 + 91)] := by
              intro u hu
              subst hu
              refine v_iast X (rd_Read γ _) ((5 * g + 4)) rfl (by omega) (by decide) dX7_readsOrder_186 ?_
              refine v_eqh (uq_Read γ _ (by omega) _) ?_
              try simp (disch := decide) only [ws_11_10, ws_12_10, ws_12_11, ws_13_10, ws_13_11, ws_13_12, ws_14_10, ws_14_11, ws_14_12, ws_14_13, ws_15_10, ws_15_11, ws_15_12, ws_15_13, ws_15_14, wset_wset, ws_same, ws_ne, wh_ws]
              refine v_aload_n X rfl dX7_readsOrder_187 ?_
              refine v_aload_n X rfl dX7_readsOrder_188 ?_
              refine v_callV (ci := 8) X mv_X7_47 (c_X7_next l γ _ S (r_6 (W.1 13) n pp) n hn h60 (by omega)) rfl rfl (rd_Model γ _) rfl ⟨Nat.le_of_ble_eq_true rfl, Nat.le_of_ble_eq_true rfl, Nat.le_of_ble_eq_true rfl, Nat.le_of_ble_eq_true rfl⟩ (Nat.le_of_ble_eq_true rfl) rfl dX7_readsOrder_189 rfl (det_i ?_)
              try simp (disch := decide) only [ws_11_10, ws_12_10, ws_12_11, ws_13_10, ws_13_11, ws_13_12, ws_14_10, ws_14_11, ws_14_12, ws_14_13, ws_15_10, ws_15_11, ws_15_12, ws_15_13, ws_15_14, wset_wset, ws_same, ws_ne, wh_ws]
              refine v_bipush' X kb_59 dX7_readsOrder_192 ?_
              have jn202 : ∀ (u : Int32), u = (bi (t_nx (W.1 13) n (r_6 (W.1 13) n pp).1 = nI 59)) → V p l e { frames := 4, cells := 0, slots := 0, locals := 84 } s m args below meth c γ Q0 (rdw γ (wset (wset W 14 (upd (upd (upd (upd (upd (W.1 14) (5 * g) (r_v0 (W.1 13) n pp)) (5 * g + 1) (r_v1 (W.1 13) n pp)) (5 * g + 2) (r_v2 (W.1 13) n pp)) (5 * g + 3) (r_v3 (W.1 13) n pp)) (5 * g + 4) (r_v4 (W.1 13) n pp))) 15 (st S (r_6 (W.1 13) n pp)))) 0 0 202 [some (.ref (γ.1 + 86)), some (.int (nI (5 * g))), some (.int (r_k (W.1 13) n pp))] [.int u, .ref (γ.1 + 86)] := by
                intro u hu
                subst hu
                refine v_callV (ci := 8) X mv_X7_60 (c_X7_needs l γ _ S (r_6 (W.1 13) n pp) n hn h60 (by omega) _) rfl rfl (rd_Model γ _) rfl ⟨Nat.le_of_ble_eq_true rfl, Nat.le_of_ble_eq_true rfl, Nat.le_of_ble_eq_true rfl, Nat.le_of_ble_eq_true rfl⟩ (Nat.le_of_ble_eq_true rfl) rfl dX7_readsOrder_202 rfl (det_v ?_)
                try simp (disch := decide) only [ws_11_10, ws_12_10, ws_12_11, ws_13_10, ws_13_11, ws_13_12, ws_14_10, ws_14_11, ws_14_12, ws_14_13, ws_15_10, ws_15_11, ws_15_12, ws_15_13, ws_15_14, wset_wset, ws_same, ws_ne, wh_ws]
                refine v_aload_n X rfl dX7_readsOrder_205 ?_
                refine v_dup X rfl dX7_readsOrder_206 ?_
                refine v_getf X (v := .int ((st S (r_7 (W.1 13) n pp)) 2)) fd_X7_68 (rd_Model γ _) rfl dX7_readsOrder_207 ?_
                rw [st_o S _ (by decide : (2 : Nat) ≠ 3) (by decide), hg]
                refine v_iconst' X kc_1 dX7_readsOrder_210 ?_
                refine v_iadd' X (nI_add _ _) dX7_readsOrder_211 ?_
                refine v_putf X fp_X7_68 (rd_Model γ _) rfl rfl (Nat.le_of_ble_eq_true rfl) dX7_readsOrder_212 ?_
                refine v_eqh (uq_reads γ _ _) ?_
                try simp (disch := decide) only [ws_11_10, ws_12_10, ws_12_11, ws_13_10, ws_13_11, ws_13_12, ws_14_10, ws_14_11, ws_14_12, ws_14_13, ws_15_10, ws_15_11, ws_15_12, ws_15_13, ws_15_14, wset_wset, ws_same, ws_ne, wh_ws]
                rw [st_u2]
                subst hQ0
                exact v_vret X rfl (Nat.le_of_ble_eq_true rfl) (Nat.le_of_ble_eq_true rfl) dX7_readsOrder_215 ⟨rfl, rfl⟩
              refine v_icmp_ne (tgt := 201) X dX7_readsOrder_194 (by decide) (fun q7 => ?_) (fun q7 => ?_)
              · refine v_iconst' X kc_0 dX7_readsOrder_201 ?_
                exact (jn202 _ (by first | exact bi_t q7 | exact bi_f q7))
              · refine v_iconst' X kc_1 dX7_readsOrder_197 ?_
                refine v_goto (tgt := 202) X dX7_readsOrder_198 (by decide) ?_
                exact (jn202 _ (by first | exact bi_t q7 | exact bi_f q7))
            refine v_icmp_ne (tgt := 168) X dX7_readsOrder_156 (by decide) (fun q5 => ?_) (fun q5 => ?_)
            · refine v_iload_n X rfl dX7_readsOrder_168 ?_
              refine v_bipush' X kb_118 dX7_readsOrder_169 ?_
              refine v_icmp_ne (tgt := 183) X dX7_readsOrder_171 (by decide) (fun q6 => ?_) (fun q6 => ?_)
              · have e6 : r_6 (W.1 13) n pp = (r_5 (W.1 13) n pp) := (if_neg q5).trans (if_neg q6)
                rw [← e6]
                refine v_sipush' X ks_m1001 dX7_readsOrder_183 ?_
                exact (jn186 _ (by unfold r_v4; first | rw [if_pos q5] | rw [if_neg q5, if_pos q6] | rw [if_neg q5, if_neg q6]))
              · have e6 : r_6 (W.1 13) n pp = r_needs (W.1 13) n (r_5 (W.1 13) n pp) (t_isD (W.1 13) n (r_5 (W.1 13) n pp).1 (nI 0) (nI 3)) := (if_neg q5).trans (if_pos q6)
                refine v_aload_n X rfl dX7_readsOrder_174 ?_
                refine v_iconst' X kc_0 dX7_readsOrder_175 ?_
                refine v_iconst' X kc_3 dX7_readsOrder_176 ?_
                refine v_callV (ci := 8) X mv_X7_74 (c_X7_digit l γ _ S (r_5 (W.1 13) n pp) n hn h60 (by omega) _ _) rfl rfl (rd_Model γ _) rfl ⟨Nat.le_of_ble_eq_true rfl, Nat.le_of_ble_eq_true rfl, Nat.le_of_ble_eq_true rfl, Nat.le_of_ble_eq_true rfl⟩ (Nat.le_of_ble_eq_true rfl) rfl dX7_readsOrder_177 rfl (det_i ?_)
                try simp (disch := decide) only [ws_11_10, ws_12_10, ws_12_11, ws_13_10, ws_13_11, ws_13_12, ws_14_10, ws_14_11, ws_14_12, ws_14_13, ws_15_10, ws_15_11, ws_15_12, ws_15_13, ws_15_14, wset_wset, ws_same, ws_ne, wh_ws]
                rw [← e6]
                refine v_goto (tgt := 186) X dX7_readsOrder_180 (by decide) ?_
                exact (jn186 _ (by unfold r_v4; first | rw [if_pos q5] | rw [if_neg q5, if_pos q6] | rw [if_neg q5, if_neg q6]))
            · have e6 : r_6 (W.1 13) n pp = r_needs (W.1 13) n (r_5 (W.1 13) n pp) (t_isD (W.1 13) n (r_5 (W.1 13) n pp).1 (nI 1) (nI 3)) := if_pos q5
              refine v_aload_n X rfl dX7_readsOrder_159 ?_
              refine v_iconst' X kc_1 dX7_readsOrder_160 ?_
              refine v_iconst' X kc_3 dX7_readsOrder_161 ?_
              refine v_callV (ci := 8) X mv_X7_74 (c_X7_digit l γ _ S (r_5 (W.1 13) n pp) n hn h60 (by omega) _ _) rfl rfl (rd_Model γ _) rfl ⟨Nat.le_of_ble_eq_true rfl, Nat.le_of_ble_eq_true rfl, Nat.le_of_ble_eq_true rfl, Nat.le_of_ble_eq_true rfl⟩ (Nat.le_of_ble_eq_true rfl) rfl dX7_readsOrder_162 rfl (det_i ?_)
              try simp (disch := decide) only [ws_11_10, ws_12_10, ws_12_11, ws_13_10, ws_13_11, ws_13_12, ws_14_10, ws_14_11, ws_14_12, ws_14_13, ws_15_10, ws_15_11, ws_15_12, ws_15_13, ws_15_14, wset_wset, ws_same, ws_ne, wh_ws]
              rw [← e6]
              refine v_goto (tgt := 186) X dX7_readsOrder_165 (by decide) ?_
              exact (jn186 _ (by unfold r_v4; first | rw [if_pos q5] | rw [if_neg q5, if_pos q6] | rw [if_neg q5, if_neg q6]))
          refine v_icmp_ne (tgt := 141) X dX7_readsOrder_132 (by decide) (fun q5 => ?_) (fun q5 => ?_)
          · have e5 : r_5 (W.1 13) n pp = r_needs (W.1 13) n (r_4 (W.1 13) n pp) (t_isL (t_nx (W.1 13) n (r_4 (W.1 13) n pp).1)) := if_neg q5
            refine v_aload_n X rfl dX7_readsOrder_141 ?_
            refine v_callV (ci := 8) X mv_X7_78 (c_X7_doorAt l γ _ S (r_4 (W.1 13) n pp) n hn h60 (by omega)) rfl rfl (rd_Model γ _) rfl ⟨Nat.le_of_ble_eq_true rfl, Nat.le_of_ble_eq_true rfl, Nat.le_of_ble_eq_true rfl, Nat.le_of_ble_eq_true rfl⟩ (Nat.le_of_ble_eq_true rfl) rfl dX7_readsOrder_142 rfl (det_i ?_)
            try simp (disch := decide) only [ws_11_10, ws_12_10, ws_12_11, ws_13_10, ws_13_11, ws_13_12, ws_14_10, ws_14_11, ws_14_12, ws_14_13, ws_15_10, ws_15_11, ws_15_12, ws_15_13, ws_15_14, wset_wset, ws_same, ws_ne, wh_ws]
            rw [← e5]
            exact (jn145 _ (by unfold r_v3; first | rw [if_pos q5] | rw [if_neg q5]))
          · have e5 : r_5 (W.1 13) n pp = (r_4 (W.1 13) n pp) := if_pos q5
            rw [← e5]
            refine v_sipush' X ks_m1001 dX7_readsOrder_135 ?_
            refine v_goto (tgt := 145) X dX7_readsOrder_138 (by decide) ?_
            exact (jn145 _ (by unfold r_v3; first | rw [if_pos q5] | rw [if_neg q5]))
        refine v_icmp_ne (tgt := 115) X dX7_readsOrder_106 (by decide) (fun q5 => ?_) (fun q5 => ?_)
        · have e4 : r_4 (W.1 13) n pp = r_needs (W.1 13) n (r_3 (W.1 13) n pp) (t_isD (W.1 13) n (r_3 (W.1 13) n pp).1 (nI 0) (nI 5)) := if_neg q5
          refine v_aload_n X rfl dX7_readsOrder_115 ?_
          refine v_iconst' X kc_0 dX7_readsOrder_116 ?_
          refine v_iconst' X kc_5 dX7_readsOrder_117 ?_
          refine v_callV (ci := 8) X mv_X7_74 (c_X7_digit l γ _ S (r_3 (W.1 13) n pp) n hn h60 (by omega) _ _) rfl rfl (rd_Model γ _) rfl ⟨Nat.le_of_ble_eq_true rfl, Nat.le_of_ble_eq_true rfl, Nat.le_of_ble_eq_true rfl, Nat.le_of_ble_eq_true rfl⟩ (Nat.le_of_ble_eq_true rfl) rfl dX7_readsOrder_118 rfl (det_i ?_)
          try simp (disch := decide) only [ws_11_10, ws_12_10, ws_12_11, ws_13_10, ws_13_11, ws_13_12, ws_14_10, ws_14_11, ws_14_12, ws_14_13, ws_15_10, ws_15_11, ws_15_12, ws_15_13, ws_15_14, wset_wset, ws_same, ws_ne, wh_ws]
          rw [← e4]
          exact (jn121 _ (by unfold r_v2; first | rw [if_pos q5] | rw [if_neg q5]))
        · have e4 : r_4 (W.1 13) n pp = (r_3 (W.1 13) n pp) := if_pos q5
          rw [← e4]
          refine v_sipush' X ks_m1001 dX7_readsOrder_109 ?_
          refine v_goto (tgt := 121) X dX7_readsOrder_112 (by decide) ?_
          exact (jn121 _ (by unfold r_v2; first | rw [if_pos q5] | rw [if_neg q5]))
      refine v_icmp_ne (tgt := 84) X dX7_readsOrder_77 (by decide) (fun q2 => ?_) (fun q2 => ?_)
      · refine v_iload_n X rfl dX7_readsOrder_84 ?_
        refine v_bipush' X kb_99 dX7_readsOrder_85 ?_
        refine v_icmp_ne (tgt := 94) X dX7_readsOrder_87 (by decide) (fun q3 => ?_) (fun q3 => ?_)
        · refine v_iconst' X kc_2 dX7_readsOrder_94 ?_
          exact (jn95 _ (by unfold t_kno; first | rw [if_pos q2] | rw [if_neg q2, if_pos q3] | rw [if_neg q2, if_neg q3]))
        · refine v_iconst' X kc_1 dX7_readsOrder_90 ?_
          refine v_goto (tgt := 95) X dX7_readsOrder_91 (by decide) ?_
          exact (jn95 _ (by unfold t_kno; first | rw [if_pos q2] | rw [if_neg q2, if_pos q3] | rw [if_neg q2, if_neg q3]))
      · refine v_iconst' X kc_0 dX7_readsOrder_80 ?_
        refine v_goto (tgt := 95) X dX7_readsOrder_81 (by decide) ?_
        exact (jn95 _ (by unfold t_kno; first | rw [if_pos q2] | rw [if_neg q2, if_pos q3] | rw [if_neg q2, if_neg q3]))
    refine v_icmp_eq (tgt := 59) X dX7_readsOrder_44 (by decide) (fun q2 => ?_) (fun q2 => ?_)
    · refine v_iconst' X kc_1 dX7_readsOrder_59 ?_
      refine v_goto (tgt := 64) X dX7_readsOrder_60 (by decide) ?_
      exact (jn64 _ (by first | exact bi_t (Or.inl q2) | exact bi_t (Or.inr (Or.inl q3)) | exact bi_t (Or.inr (Or.inr q4)) | exact bi_f (show ¬ t_isK (r_k (W.1 13) n pp) from fun z => z.elim q2 (fun z => z.elim q3 q4))))
    · refine v_iload_n X rfl dX7_readsOrder_47 ?_
      refine v_bipush' X kb_99 dX7_readsOrder_48 ?_
      refine v_icmp_eq (tgt := 59) X dX7_readsOrder_50 (by decide) (fun q3 => ?_) (fun q3 => ?_)
      · refine v_iconst' X kc_1 dX7_readsOrder_59 ?_
        refine v_goto (tgt := 64) X dX7_readsOrder_60 (by decide) ?_
        exact (jn64 _ (by first | exact bi_t (Or.inl q2) | exact bi_t (Or.inr (Or.inl q3)) | exact bi_t (Or.inr (Or.inr q4)) | exact bi_f (show ¬ t_isK (r_k (W.1 13) n pp) from fun z => z.elim q2 (fun z => z.elim q3 q4))))
      · refine v_iload_n X rfl dX7_readsOrder_53 ?_
        refine v_bipush' X kb_118 dX7_readsOrder_54 ?_
        refine v_icmp_ne (tgt := 63) X dX7_readsOrder_56 (by decide) (fun q4 => ?_) (fun q4 => ?_)
        · refine v_iconst' X kc_0 dX7_readsOrder_63 ?_
          exact (jn64 _ (by first | exact bi_t (Or.inl q2) | exact bi_t (Or.inr (Or.inl q3)) | exact bi_t (Or.inr (Or.inr q4)) | exact bi_f (show ¬ t_isK (r_k (W.1 13) n pp) from fun z => z.elim q2 (fun z => z.elim q3 q4))))
        · refine v_iconst' X kc_1 dX7_readsOrder_59 ?_
          refine v_goto (tgt := 64) X dX7_readsOrder_60 (by decide) ?_
          exact (jn64 _ (by first | exact bi_t (Or.inl q2) | exact bi_t (Or.inr (Or.inl q3)) | exact bi_t (Or.inr (Or.inr q4)) | exact bi_f (show ¬ t_isK (r_k (W.1 13) n pp) from fun z => z.elim q2 (fun z => z.elim q3 q4))))
  refine v_icmp_ne (tgt := 21) X dX7_readsOrder_14 (by decide) (fun q1 => ?_) (fun q1 => ?_)
  · refine v_iconst' X kc_0 dX7_readsOrder_21 ?_
    exact v_Ln (jn22 _ (by first | exact bi_t q1 | exact bi_f q1)) ⟨Or.inr rfl, Or.inr rfl, Or.inl rfl, trivial⟩
  · refine v_iconst' X kc_1 dX7_readsOrder_17 ?_
    refine v_goto (tgt := 22) X dX7_readsOrder_18 (by decide) ?_
    exact v_Ln (jn22 _ (by first | exact bi_t q1 | exact bi_f q1)) ⟨Or.inr rfl, Or.inr rfl, Or.inl rfl, trivial⟩
theorem r_all_b {T : Nat → Int32} {n : Nat} (hn : n ≤ 60) : ∀ f (x : RX), (x.1.1 ≤ 68 ∧ (x.1.2 = (-1001) → 5 * x.2.1 ≤ x.1.1)) → (r_all T n f x).1.1 ≤ 68 ∧ ((r_all T n f x).1.2 = (-1001) → 5 * (r_all T n f x).2.1 ≤ (r_all T n f x).1.1)
  | 0, _, h => h
  | f + 1, x, h => by
    by_cases hc : x.1.2 = (-1001) ∧ x.1.1 < n
    · have e : r_all T n (f + 1) x = r_all T n f (r_7 T n x.1, x.2.1 + 1, r_row T n x.1 x.2.2 (5 * x.2.1)) := if_pos hc
      rw [e]
      refine r_all_b hn f _ ⟨?_, fun h9 => ?_⟩
      · exact (r_bs T n x.1 (B := 60) (by omega) hn).2.2.2.2.2.2
      · have h5 := r_7_ok (by omega) (by omega) h9
        have h6 := h.2 hc.1
        show 5 * (x.2.1 + 1) ≤ (r_7 T n x.1).1
        omega
    · rw [r_all_stop hc]; exact h
theorem r_reads_b (T : Nat → Int32) {n : Nat} (hn : n ≤ 60) (R : Nat → Int32) : (r_reads T n R).1.1 ≤ 68 ∧ ((r_reads T n R).1.2 = (-1001) → (r_reads T n R).2.1 ≤ 13) := by
  have h0 : t_bl T n 0 ≤ 60 := t_bl_max T n 0 60 (by omega) hn
  have := r_all_b (T := T) hn 61 ((t_bl T n 0, (-1001)), 0, R) ⟨by show t_bl T n 0 ≤ 68; omega, fun _ => Nat.zero_le _⟩
  refine ⟨this.1, fun h => ?_⟩
  have h2 := this.2 h
  have h1 := this.1
  show (r_all T n 61 ((t_bl T n 0, (-1001)), 0, R)).2.1 ≤ 13
  omega
set_option maxHeartbeats 4000000 in
set_option maxRecDepth 100000 in
theorem c_X7_reads (l : Launch) (γ : Gm) (W : Wd) (n : Nat) (hn : W.1 15 1 = nI n) (h60 : n ≤ 60) : Cr l γ yX7_reads cX7_reads 1 none 5 106 0 0 [.ref (γ.1 + 86)] (rdw γ W) (Det none (rdw γ (wset (wset W 14 (r_reads (W.1 13) n (W.1 14)).2.2) 15 (st (upd (W.1 15) 2 (nI (r_reads (W.1 13) n (W.1 14)).2.1)) (r_reads (W.1 13) n (W.1 14)).1)))) := by
  have h0 : t_bl (W.1 13) n 0 ≤ 60 := t_bl_max _ n 0 60 (by omega) h60
  refine Cr_of [some (.ref (γ.1 + 86))] (by decide +kernel) (Nat.le_of_ble_eq_true rfl) rfl ?_
  intro p e s m args below meth c X
  refine v_q0 (fun Q0 hQ0 => ?_)
  refine v_aload_n X rfl dX7_reads_0 ?_
  refine v_iconst' X kc_0 dX7_reads_1 ?_
  refine v_putf X fp_X7_44 (rd_Model γ _) rfl rfl (Nat.le_of_ble_eq_true rfl) dX7_reads_2 ?_
  refine v_eqh (uq_at γ _ _) ?_
  try simp (disch := decide) only [ws_11_10, ws_12_10, ws_12_11, ws_13_10, ws_13_11, ws_13_12, ws_14_10, ws_14_11, ws_14_12, ws_14_13, ws_15_10, ws_15_11, ws_15_12, ws_15_13, ws_15_14, wset_wset, ws_same, ws_ne, wh_ws]
  refine v_aload_n X rfl dX7_reads_5 ?_
  refine v_sipush' X ks_m1001 dX7_reads_6 ?_
  refine v_putf X fp_X7_51 (rd_Model γ _) rfl rfl (Nat.le_of_ble_eq_true rfl) dX7_reads_9 ?_
  refine v_eqh (uq_fault γ _ _) ?_
  try simp (disch := decide) only [ws_11_10, ws_12_10, ws_12_11, ws_13_10, ws_13_11, ws_13_12, ws_14_10, ws_14_11, ws_14_12, ws_14_13, ws_15_10, ws_15_11, ws_15_12, ws_15_13, ws_15_14, wset_wset, ws_same, ws_ne, wh_ws]
  refine v_aload_n X rfl dX7_reads_12 ?_
  refine v_iconst' X kc_0 dX7_reads_13 ?_
  refine v_putf X fp_X7_68 (rd_Model γ _) rfl rfl (Nat.le_of_ble_eq_true rfl) dX7_reads_14 ?_
  refine v_eqh (uq_reads γ _ _) ?_
  try simp (disch := decide) only [ws_11_10, ws_12_10, ws_12_11, ws_13_10, ws_13_11, ws_13_12, ws_14_10, ws_14_11, ws_14_12, ws_14_13, ws_15_10, ws_15_11, ws_15_12, ws_15_13, ws_15_14, wset_wset, ws_same, ws_ne, wh_ws]
  rw [show upd (upd (upd (W.1 15) 3 (nI 0)) 4 (-1001)) 2 (nI 0) = st (upd (W.1 15) 2 (nI 0)) (0, (-1001)) from st_u2 _ (0, (-1001)) _]
  refine v_aload_n X rfl dX7_reads_17 ?_
  refine v_callV (ci := 8) X mv_X7_54 (c_X7_blanks l γ _ (upd (W.1 15) 2 (nI 0)) (0, (-1001)) n (by rw [pk_un (by decide)]; exact hn) h60 (by decide)) rfl rfl (rd_Model γ _) rfl ⟨Nat.le_of_ble_eq_true rfl, Nat.le_of_ble_eq_true rfl, Nat.le_of_ble_eq_true rfl, Nat.le_of_ble_eq_true rfl⟩ (Nat.le_of_ble_eq_true rfl) rfl dX7_reads_18 rfl (det_v ?_)
  try simp (disch := decide) only [ws_11_10, ws_12_10, ws_12_11, ws_13_10, ws_13_11, ws_13_12, ws_14_10, ws_14_11, ws_14_12, ws_14_13, ws_15_10, ws_15_11, ws_15_12, ws_15_13, ws_15_14, wset_wset, ws_same, ws_ne, wh_ws]
  try dsimp only
  have lp21 : ∀ (m0 : Nat) (f : Nat) (x : RX), f + 1 ≤ m0 → r_all (W.1 13) n f x = (r_reads (W.1 13) n (W.1 14)) → x.1.1 ≤ 68 → (x.1.2 = (-1001) → 5 * x.2.1 ≤ x.1.1 ∧ 61 ≤ f + x.1.1) → V p l e { frames := 5, cells := 0, slots := 0, locals := 106 } s m args below meth c γ Q0 (rdw γ (wset (wset W 14 x.2.2) 15 (st (upd (W.1 15) 2 (nI x.2.1)) x.1))) 0 0 21 [some (.ref (γ.1 + 86))] [] := by
    intro m0
    induction m0 with
    | zero =>
      intro f x hbd
      exact absurd hbd (by omega)
    | succ m0 ih =>
      intro f x hbd hF hx hi
      refine v_aload_n X rfl dX7_reads_21 ?_
      refine v_getf X (v := .int ((st (upd (W.1 15) 2 (nI x.2.1)) x.1) 4)) fd_X7_51 (rd_Model γ _) rfl dX7_reads_22 ?_
      rw [st_4]
      refine v_sipush' X ks_m1001 dX7_reads_25 ?_
      refine v_icmp_ne (tgt := 49) X dX7_reads_28 (by decide) (fun q1 => ?_) (fun q1 => ?_)
      · have hX : x = (r_reads (W.1 13) n (W.1 14)) := by rw [← hF, r_all_stop (fun z => q1 z.1)]
        subst hQ0
        exact v_vret X rfl (Nat.le_of_ble_eq_true rfl) (Nat.le_of_ble_eq_true rfl) dX7_reads_49 ⟨rfl, by rw [hX]⟩
      · have hi2 := hi q1
        refine v_aload_n X rfl dX7_reads_31 ?_
        refine v_getf X (v := .int ((st (upd (W.1 15) 2 (nI x.2.1)) x.1) 3)) fd_X7_44 (rd_Model γ _) rfl dX7_reads_32 ?_
        rw [st_3]
        refine v_aload_n X rfl dX7_reads_35 ?_
        refine v_getf X (v := .int ((st (upd (W.1 15) 2 (nI x.2.1)) x.1) 1)) fd_X7_41 (rd_Model γ _) rfl dX7_reads_36 ?_
        rw [st_o _ _ (by decide : (1 : Nat) ≠ 3) (by decide), pk_un (by decide : (1 : Nat) ≠ 2), hn]
        refine v_icmp_ge_n (tgt := 49) X dX7_reads_39 (by decide) (by omega) (by omega) (fun q2 => ?_) (fun q2 => ?_)
        · have hX : x = (r_reads (W.1 13) n (W.1 14)) := by rw [← hF, r_all_stop (fun z => absurd z.2 (by omega))]
          subst hQ0
          exact v_vret X rfl (Nat.le_of_ble_eq_true rfl) (Nat.le_of_ble_eq_true rfl) dX7_reads_49 ⟨rfl, by rw [hX]⟩
        · obtain ⟨f, rfl⟩ : ∃ z, f = z + 1 := ⟨f - 1, by omega⟩
          refine v_aload_n X rfl dX7_reads_42 ?_
          refine v_callV (ci := 8) X mv_X7_81 (c_X7_readsOrder l γ _ (upd (W.1 15) 2 (nI x.2.1)) x.1 n (by rw [pk_un (by decide)]; exact hn) h60 (by omega) x.2.1 (by rw [pk_us]) (by omega)) rfl rfl (rd_Model γ _) rfl ⟨Nat.le_of_ble_eq_true rfl, Nat.le_of_ble_eq_true rfl, Nat.le_of_ble_eq_true rfl, Nat.le_of_ble_eq_true rfl⟩ (Nat.le_of_ble_eq_true rfl) rfl dX7_reads_43 rfl (det_v ?_)
          try simp (disch := decide) only [ws_11_10, ws_12_10, ws_12_11, ws_13_10, ws_13_11, ws_13_12, ws_14_10, ws_14_11, ws_14_12, ws_14_13, ws_15_10, ws_15_11, ws_15_12, ws_15_13, ws_15_14, wset_wset, ws_same, ws_ne, wh_ws]
          rw [upd_upd]
          have hy := ih f (r_7 (W.1 13) n x.1, x.2.1 + 1, r_row (W.1 13) n x.1 x.2.2 (5 * x.2.1)) (by omega) (by rw [← hF]; show _ = if _ then _ else _; rw [if_pos ⟨q1, by omega⟩]) (r_bs (W.1 13) n x.1 (B := 60) (by omega) h60).2.2.2.2.2.2 (fun h9 => by have h5 := r_7_ok (by omega) (by omega) h9; show 5 * (x.2.1 + 1) ≤ (r_7 (W.1 13) n x.1).1 ∧ 61 ≤ f + (r_7 (W.1 13) n x.1).1; omega)
          refine v_goto (tgt := 21) X dX7_reads_46 (by decide) ?_
          exact (hy)
  have hy := lp21 62 61 ((t_bl (W.1 13) n 0, (-1001)), 0, W.1 14) (by omega) rfl (by show t_bl (W.1 13) n 0 ≤ 68; omega) (fun _ => ⟨Nat.zero_le _, Nat.le_add_right _ _⟩)
  dsimp only at hy
  rw [wset_self] at hy
  exact (hy)
set_option maxHeartbeats 4000000 in
set_option maxRecDepth 100000 in
theorem c_X7_fault (l : Launch) (γ : Gm) (W : Wd) (n : Nat) (hn : W.1 15 1 = nI n) (h60 : n ≤ 60) : Cr l γ yX7_fault cX7_fault 1 (some .int) 6 126 0 0 [.ref (γ.1 + 86)] (rdw γ W) (Det (some (.int (r_reads (W.1 13) n (W.1 14)).1.2)) (rdw γ (wset (wset W 14 (r_reads (W.1 13) n (W.1 14)).2.2) 15 (st (upd (W.1 15) 2 (nI (r_reads (W.1 13) n (W.1 14)).2.1)) (r_reads (W.1 13) n (W.1 14)).1)))) := by
  refine Cr_of [some (.ref (γ.1 + 86))] (by decide +kernel) (Nat.le_of_ble_eq_true rfl) rfl ?_
  intro p e s m args below meth c X
  refine v_q0 (fun Q0 hQ0 => ?_)
  refine v_aload_n X rfl dX7_fault_0 ?_
  refine v_callV (ci := 8) X mv_X7_84 (c_X7_reads l γ _ n (by exact hn) h60) rfl rfl (rd_Model γ _) rfl ⟨Nat.le_of_ble_eq_true rfl, Nat.le_of_ble_eq_true rfl, Nat.le_of_ble_eq_true rfl, Nat.le_of_ble_eq_true rfl⟩ (Nat.le_of_ble_eq_true rfl) rfl dX7_fault_1 rfl (det_v ?_)
  try simp (disch := decide) only [ws_11_10, ws_12_10, ws_12_11, ws_13_10, ws_13_11, ws_13_12, ws_14_10, ws_14_11, ws_14_12, ws_14_13, ws_15_10, ws_15_11, ws_15_12, ws_15_13, ws_15_14, wset_wset, ws_same, ws_ne, wh_ws]
  refine v_aload_n X rfl dX7_fault_4 ?_
  refine v_getf X (v := .int ((st (upd (W.1 15) 2 (nI (r_reads (W.1 13) n (W.1 14)).2.1)) (r_reads (W.1 13) n (W.1 14)).1) 4)) fd_X7_51 (rd_Model γ _) rfl dX7_fault_5 ?_
  rw [st_4]
  subst hQ0
  exact v_iret X rfl (Nat.le_of_ble_eq_true rfl) (Nat.le_of_ble_eq_true rfl) dX7_fault_8 ⟨rfl, rfl⟩
