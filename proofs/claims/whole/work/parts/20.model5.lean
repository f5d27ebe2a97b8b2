theorem s_as_idem (A M : Nat → Int32) : s_as (s_as A M 233) M 233 = s_as A M 233 := by
  funext j
  by_cases hj : j < 233
  · simp only [s_as]; rw [if_pos hj, if_pos hj]
  · simp only [s_as]; rw [if_neg hj, if_neg hj]
theorem empF_stop {cn : Nat} {f n : Nat} {M : Nat → Int32} (h : s_inW M cn ≤ 0) : s_empF cn f n M = (n, M) := by
  cases f
  · rfl
  · show (if s_inW M cn ≤ 0 then (n, M) else _) = _
    rw [if_pos h]
def s_aft (W : Wd) : Wd := wset W 12 (s_as (W.1 12) (W.1 10) 233)
set_option maxHeartbeats 4000000 in
set_option maxRecDepth 100000 in
theorem c_X7_foretell (l : Launch) (γ : Gm) (W : Wd) (cn : Nat) (hv : VM (W.1 10) cn) (x z : Int32) : Cr l γ yX7_foretell cX7_foretell 4 (some .int) 5 108 0 0 [.ref (γ.1 + 86), .int x, .int z] (rdw γ W) (Det (some (.int (s_fore (W.1 10) cn x z))) (rdw γ (if ¬ x < nI 1 ∧ ¬ nI 200 < x then (if ¬ z < nI 0 ∧ ¬ nI 6 < z then s_aft W else W) else W))) := by
  refine Cr_of [some (.ref (γ.1 + 86)), some (.int x), some (.int z), none] (by decide +kernel) (Nat.le_of_ble_eq_true rfl) rfl ?_
  intro p e s m args below meth c X
  refine v_q0 (fun Q0 hQ0 => ?_)
  refine v_iload_n X rfl dX7_foretell_0 ?_
  refine v_iconst' X kc_1 dX7_foretell_1 ?_
  refine v_sipush' X ks_200 dX7_foretell_2 ?_
  refine v_callS X ms_X7_29 (c_X7_in l γ _ _ _ _) rfl ⟨Nat.le_of_ble_eq_true rfl, Nat.le_of_ble_eq_true rfl, Nat.le_of_ble_eq_true rfl, Nat.le_of_ble_eq_true rfl⟩ (Nat.le_of_ble_eq_true rfl) rfl dX7_foretell_5 rfl (det_i ?_)
  refine v_if_eq_b (tgt := 21) X dX7_foretell_8 (by decide) (fun q1 => ?_) (fun q1 => ?_)
  · refine v_sipush' X ks_m1002 dX7_foretell_21 ?_
    subst hQ0
    exact v_iret X rfl (Nat.le_of_ble_eq_true rfl) (Nat.le_of_ble_eq_true rfl) dX7_foretell_24 ⟨so_some (by unfold s_fore; first | rw [if_neg q1] | rw [if_pos q1, if_neg q2] | rw [if_pos q1, ej, if_pos q2]), congrArg (rdw γ) (by first | rw [if_neg q1] | rw [if_pos q1, if_neg q2] | (rw [if_pos q1, if_pos q2]; rfl))⟩
  · obtain ⟨j, hj1, hj, rfl⟩ := in_nat1 (by decide) (by decide) q1
    have ej : (nI j).toNatClampNeg = j := nI_clamp (by omega)
    refine v_iload_n X rfl dX7_foretell_11 ?_
    refine v_iconst' X kc_0 dX7_foretell_12 ?_
    refine v_bipush' X kb_6 dX7_foretell_13 ?_
    refine v_callS X ms_X7_29 (c_X7_in l γ _ _ _ _) rfl ⟨Nat.le_of_ble_eq_true rfl, Nat.le_of_ble_eq_true rfl, Nat.le_of_ble_eq_true rfl, Nat.le_of_ble_eq_true rfl⟩ (Nat.le_of_ble_eq_true rfl) rfl dX7_foretell_15 rfl (det_i ?_)
    refine v_if_ne_b (tgt := 25) X dX7_foretell_18 (by decide) (fun q2 => ?_) (fun q2 => ?_)
    · refine v_aload_n X rfl dX7_foretell_25 ?_
      refine v_callV (ci := 8) X mv_X7_159 (c_X7_keepsAside l γ _) rfl rfl (rd_Model γ _) rfl ⟨Nat.le_of_ble_eq_true rfl, Nat.le_of_ble_eq_true rfl, Nat.le_of_ble_eq_true rfl, Nat.le_of_ble_eq_true rfl⟩ (Nat.le_of_ble_eq_true rfl) rfl dX7_foretell_26 rfl (det_v ?_)
      try simp (disch := decide) only [ws_11_10, ws_12_10, ws_12_11, ws_13_10, ws_13_11, ws_13_12, ws_14_10, ws_14_11, ws_14_12, ws_14_13, ws_15_10, ws_15_11, ws_15_12, ws_15_13, ws_15_14, wset_wset, ws_same, ws_ne, wh_ws]
      refine v_iconst' X kc_0 dX7_foretell_29 ?_
      refine v_istore_n X (Nat.le_of_ble_eq_true rfl) rfl dX7_foretell_30 ?_
      have lp31 : ∀ (n : Nat) (k : Nat), k ≤ j ∧ j + 1 ≤ k + n → V p l e { frames := 5, cells := 0, slots := 0, locals := 108 } s m args below meth c γ Q0 (rdw γ (wset (wset W 10 (s_secs (W.1 10) k)) 12 (s_as (W.1 12) (W.1 10) 233))) 0 0 31 [some (.ref (γ.1 + 86)), some (.int (nI j)), some (.int z), some (.int (nI k))] [] := by
        intro n
        induction n with
        | zero =>
          intro k hbd
          exact absurd hbd (by omega)
        | succ n ih =>
          intro k hbd
          refine v_iload_n X rfl dX7_foretell_31 ?_
          refine v_iload_n X rfl dX7_foretell_32 ?_
          refine v_icmp_ge_n (tgt := 46) X dX7_foretell_33 (by decide) (by omega) (by omega) (fun c_1 => ?_) (fun c_1 => ?_)
          · have hk : k = j := by omega
            subst hk
            refine v_aload_n X rfl dX7_foretell_46 ?_
            refine v_iload_n X rfl dX7_foretell_47 ?_
            refine v_callV (ci := 8) X mv_X7_162 (c_X7_part l γ _ cn (by exact VM_secs hv k) _ q2) rfl rfl (rd_Model γ _) rfl ⟨Nat.le_of_ble_eq_true rfl, Nat.le_of_ble_eq_true rfl, Nat.le_of_ble_eq_true rfl, Nat.le_of_ble_eq_true rfl⟩ (Nat.le_of_ble_eq_true rfl) rfl dX7_foretell_48 rfl (det_i ?_)
            try simp (disch := decide) only [ws_11_10, ws_12_10, ws_12_11, ws_13_10, ws_13_11, ws_13_12, ws_14_10, ws_14_11, ws_14_12, ws_14_13, ws_15_10, ws_15_11, ws_15_12, ws_15_13, ws_15_14, wset_wset, ws_same, ws_ne, wh_ws]
            refine v_istore_n X (Nat.le_of_ble_eq_true rfl) rfl dX7_foretell_51 ?_
            refine v_aload_n X rfl dX7_foretell_52 ?_
            refine v_callV (ci := 8) X mv_X7_165 (c_X7_returns l γ _) rfl rfl (rd_Model γ _) rfl ⟨Nat.le_of_ble_eq_true rfl, Nat.le_of_ble_eq_true rfl, Nat.le_of_ble_eq_true rfl, Nat.le_of_ble_eq_true rfl⟩ (Nat.le_of_ble_eq_true rfl) rfl dX7_foretell_53 rfl (det_v ?_)
            try simp (disch := decide) only [ws_11_10, ws_12_10, ws_12_11, ws_13_10, ws_13_11, ws_13_12, ws_14_10, ws_14_11, ws_14_12, ws_14_13, ws_15_10, ws_15_11, ws_15_12, ws_15_13, ws_15_14, wset_wset, ws_same, ws_ne, wh_ws]
            rw [as_back (fun j hj => secs_hi hv hj _), wset_self]
            refine v_iload_n X rfl dX7_foretell_56 ?_
            subst hQ0
            exact v_iret X rfl (Nat.le_of_ble_eq_true rfl) (Nat.le_of_ble_eq_true rfl) dX7_foretell_57 ⟨so_some (by unfold s_fore; first | rw [if_neg q1] | rw [if_pos q1, if_neg q2] | rw [if_pos q1, ej, if_pos q2]), congrArg (rdw γ) (by first | rw [if_neg q1] | rw [if_pos q1, if_neg q2] | (rw [if_pos q1, if_pos q2]; rfl))⟩
          · refine v_aload_n X rfl dX7_foretell_36 ?_
            refine v_callV (ci := 8) X mv_X7_133 (c_X7_second'' l γ _ cn (by exact VM_secs hv k)) rfl rfl (rd_Model γ _) rfl ⟨Nat.le_of_ble_eq_true rfl, Nat.le_of_ble_eq_true rfl, Nat.le_of_ble_eq_true rfl, Nat.le_of_ble_eq_true rfl⟩ (Nat.le_of_ble_eq_true rfl) rfl dX7_foretell_37 rfl (det_v ?_)
            try simp (disch := decide) only [ws_11_10, ws_12_10, ws_12_11, ws_13_10, ws_13_11, ws_13_12, ws_14_10, ws_14_11, ws_14_12, ws_14_13, ws_15_10, ws_15_11, ws_15_12, ws_15_13, ws_15_14, wset_wset, ws_same, ws_ne, wh_ws]
            refine v_iinc' X rfl rfl (nI_inc _) dX7_foretell_40 ?_
            refine v_goto (tgt := 31) X dX7_foretell_43 (by decide) ?_
            exact (ih (k + 1) ⟨by omega, by omega⟩)
      have hy := lp31 (j + 1) 0 ⟨by omega, by omega⟩
      rw [show s_secs (W.1 10) 0 = W.1 10 from rfl, wset_self] at hy
      exact (hy)
    · refine v_sipush' X ks_m1002 dX7_foretell_21 ?_
      subst hQ0
      exact v_iret X rfl (Nat.le_of_ble_eq_true rfl) (Nat.le_of_ble_eq_true rfl) dX7_foretell_24 ⟨so_some (by unfold s_fore; first | rw [if_neg q1] | rw [if_pos q1, if_neg q2] | rw [if_pos q1, ej, if_pos q2]), congrArg (rdw γ) (by first | rw [if_neg q1] | rw [if_pos q1, if_neg q2] | (rw [if_pos q1, if_pos q2]; rfl))⟩
set_option maxHeartbeats 4000000 in
set_option maxRecDepth 100000 in
theorem c_X7_emptyAfter (l : Launch) (γ : Gm) (W : Wd) (cn : Nat) (hv : VM (W.1 10) cn) : Cr l γ yX7_emptyAfter cX7_emptyAfter 3 (some .int) 5 108 0 0 [.ref (γ.1 + 86)] (rdw γ W) (Det (some (.int (s_emp (W.1 10) cn))) (rdw γ (s_aft W))) := by
  refine Cr_of [some (.ref (γ.1 + 86)), none, none] (by decide +kernel) (Nat.le_of_ble_eq_true rfl) rfl ?_
  intro p e s m args below meth c X
  refine v_q0 (fun Q0 hQ0 => ?_)
  refine v_aload_n X rfl dX7_emptyAfter_0 ?_
  refine v_callV (ci := 8) X mv_X7_159 (c_X7_keepsAside l γ _) rfl rfl (rd_Model γ _) rfl ⟨Nat.le_of_ble_eq_true rfl, Nat.le_of_ble_eq_true rfl, Nat.le_of_ble_eq_true rfl, Nat.le_of_ble_eq_true rfl⟩ (Nat.le_of_ble_eq_true rfl) rfl dX7_emptyAfter_1 rfl (det_v ?_)
  try simp (disch := decide) only [ws_11_10, ws_12_10, ws_12_11, ws_13_10, ws_13_11, ws_13_12, ws_14_10, ws_14_11, ws_14_12, ws_14_13, ws_15_10, ws_15_11, ws_15_12, ws_15_13, ws_15_14, wset_wset, ws_same, ws_ne, wh_ws]
  refine v_iconst' X kc_0 dX7_emptyAfter_4 ?_
  refine v_istore_n X (Nat.le_of_ble_eq_true rfl) rfl dX7_emptyAfter_5 ?_
  have lp6 : ∀ (n : Nat) (k f : Nat) (N : Nat → Int32), k + f = 400 ∧ f + 1 ≤ n → VM N cn → (∀ j, 233 ≤ j → N j = W.1 10 j) → s_empF cn f k N = s_empF cn 400 0 (W.1 10) → V p l e { frames := 5, cells := 0, slots := 0, locals := 108 } s m args below meth c γ Q0 (rdw γ (wset (wset W 10 N) 12 (s_as (W.1 12) (W.1 10) 233))) 0 0 6 [some (.ref (γ.1 + 86)), some (.int (nI k)), none] [] := by
    intro n
    induction n with
    | zero =>
      intro k f N hbd
      exact absurd hbd (by omega)
    | succ n ih =>
      intro k f N hbd hvN hzN hF
      refine v_iload_n X rfl dX7_emptyAfter_6 ?_
      refine v_sipush' X ks_400 dX7_emptyAfter_7 ?_
      refine v_icmp_ge_n (tgt := 30) X dX7_emptyAfter_10 (by decide) (by omega) (by omega) (fun c_7 => ?_) (fun c_7 => ?_)
      · have hf : f = 0 := by omega
        subst hf
        have hE : s_empF cn 0 k N = (k, N) := rfl
        refine v_aload_n X rfl dX7_emptyAfter_30 ?_
        refine v_callV (ci := 8) X mv_X7_127 (c_X7_inWagons' l γ _ cn (by exact hvN)) rfl rfl (rd_Model γ _) rfl ⟨Nat.le_of_ble_eq_true rfl, Nat.le_of_ble_eq_true rfl, Nat.le_of_ble_eq_true rfl, Nat.le_of_ble_eq_true rfl⟩ (Nat.le_of_ble_eq_true rfl) rfl dX7_emptyAfter_31 rfl (det_i ?_)
        try simp (disch := decide) only [ws_11_10, ws_12_10, ws_12_11, ws_13_10, ws_13_11, ws_13_12, ws_14_10, ws_14_11, ws_14_12, ws_14_13, ws_15_10, ws_15_11, ws_15_12, ws_15_13, ws_15_14, wset_wset, ws_same, ws_ne, wh_ws]
        refine v_if_ne (tgt := 41) X dX7_emptyAfter_34 (by decide) (fun q3 => ?_) (fun q3 => ?_)
        · refine v_iconst' X kc_0 dX7_emptyAfter_41 ?_
          refine v_istore_n X (Nat.le_of_ble_eq_true rfl) rfl dX7_emptyAfter_42 ?_
          refine v_aload_n X rfl dX7_emptyAfter_43 ?_
          refine v_callV (ci := 8) X mv_X7_165 (c_X7_returns l γ _) rfl rfl (rd_Model γ _) rfl ⟨Nat.le_of_ble_eq_true rfl, Nat.le_of_ble_eq_true rfl, Nat.le_of_ble_eq_true rfl, Nat.le_of_ble_eq_true rfl⟩ (Nat.le_of_ble_eq_true rfl) rfl dX7_emptyAfter_44 rfl (det_v ?_)
          try simp (disch := decide) only [ws_11_10, ws_12_10, ws_12_11, ws_13_10, ws_13_11, ws_13_12, ws_14_10, ws_14_11, ws_14_12, ws_14_13, ws_15_10, ws_15_11, ws_15_12, ws_15_13, ws_15_14, wset_wset, ws_same, ws_ne, wh_ws]
          rw [as_back hzN, wset_self]
          refine v_iload_n X rfl dX7_emptyAfter_47 ?_
          refine v_if_eq_t (tgt := 55) X dX7_emptyAfter_48 (by decide) (by decide) ?_
          refine v_sipush' X ks_m1001 dX7_emptyAfter_55 ?_
          subst hQ0
          exact v_iret X rfl (Nat.le_of_ble_eq_true rfl) (Nat.le_of_ble_eq_true rfl) dX7_emptyAfter_58 ⟨so_some (by unfold s_emp; rw [← hF, hE]; first | rw [if_pos q3] | rw [if_neg q3]), rfl⟩
        · refine v_iconst' X kc_1 dX7_emptyAfter_37 ?_
          refine v_goto (tgt := 42) X dX7_emptyAfter_38 (by decide) ?_
          refine v_istore_n X (Nat.le_of_ble_eq_true rfl) rfl dX7_emptyAfter_42 ?_
          refine v_aload_n X rfl dX7_emptyAfter_43 ?_
          refine v_callV (ci := 8) X mv_X7_165 (c_X7_returns l γ _) rfl rfl (rd_Model γ _) rfl ⟨Nat.le_of_ble_eq_true rfl, Nat.le_of_ble_eq_true rfl, Nat.le_of_ble_eq_true rfl, Nat.le_of_ble_eq_true rfl⟩ (Nat.le_of_ble_eq_true rfl) rfl dX7_emptyAfter_44 rfl (det_v ?_)
          try simp (disch := decide) only [ws_11_10, ws_12_10, ws_12_11, ws_13_10, ws_13_11, ws_13_12, ws_14_10, ws_14_11, ws_14_12, ws_14_13, ws_15_10, ws_15_11, ws_15_12, ws_15_13, ws_15_14, wset_wset, ws_same, ws_ne, wh_ws]
          rw [as_back hzN, wset_self]
          refine v_iload_n X rfl dX7_emptyAfter_47 ?_
          refine v_if_eq_f (tgt := 55) X dX7_emptyAfter_48 (by decide) (by decide) ?_
          refine v_iload_n X rfl dX7_emptyAfter_51 ?_
          refine v_goto (tgt := 58) X dX7_emptyAfter_52 (by decide) ?_
          subst hQ0
          exact v_iret X rfl (Nat.le_of_ble_eq_true rfl) (Nat.le_of_ble_eq_true rfl) dX7_emptyAfter_58 ⟨so_some (by unfold s_emp; rw [← hF, hE]; first | rw [if_pos q3] | rw [if_neg q3]), rfl⟩
      · obtain ⟨f, rfl⟩ : ∃ z, f = z + 1 := ⟨f - 1, by omega⟩
        refine v_aload_n X rfl dX7_emptyAfter_13 ?_
        refine v_callV (ci := 8) X mv_X7_127 (c_X7_inWagons' l γ _ cn (by exact hvN)) rfl rfl (rd_Model γ _) rfl ⟨Nat.le_of_ble_eq_true rfl, Nat.le_of_ble_eq_true rfl, Nat.le_of_ble_eq_true rfl, Nat.le_of_ble_eq_true rfl⟩ (Nat.le_of_ble_eq_true rfl) rfl dX7_emptyAfter_14 rfl (det_i ?_)
        try simp (disch := decide) only [ws_11_10, ws_12_10, ws_12_11, ws_13_10, ws_13_11, ws_13_12, ws_14_10, ws_14_11, ws_14_12, ws_14_13, ws_15_10, ws_15_11, ws_15_12, ws_15_13, ws_15_14, wset_wset, ws_same, ws_ne, wh_ws]
        refine v_if_le (tgt := 30) X dX7_emptyAfter_17 (by decide) (fun q2 => ?_) (fun q2 => ?_)
        · have hE : s_empF cn (f + 1) k N = (k, N) := empF_stop q2
          refine v_aload_n X rfl dX7_emptyAfter_30 ?_
          refine v_callV (ci := 8) X mv_X7_127 (c_X7_inWagons' l γ _ cn (by exact hvN)) rfl rfl (rd_Model γ _) rfl ⟨Nat.le_of_ble_eq_true rfl, Nat.le_of_ble_eq_true rfl, Nat.le_of_ble_eq_true rfl, Nat.le_of_ble_eq_true rfl⟩ (Nat.le_of_ble_eq_true rfl) rfl dX7_emptyAfter_31 rfl (det_i ?_)
          try simp (disch := decide) only [ws_11_10, ws_12_10, ws_12_11, ws_13_10, ws_13_11, ws_13_12, ws_14_10, ws_14_11, ws_14_12, ws_14_13, ws_15_10, ws_15_11, ws_15_12, ws_15_13, ws_15_14, wset_wset, ws_same, ws_ne, wh_ws]
          refine v_if_ne (tgt := 41) X dX7_emptyAfter_34 (by decide) (fun q3 => ?_) (fun q3 => ?_)
          · refine v_iconst' X kc_0 dX7_emptyAfter_41 ?_
            refine v_istore_n X (Nat.le_of_ble_eq_true rfl) rfl dX7_emptyAfter_42 ?_
            refine v_aload_n X rfl dX7_emptyAfter_43 ?_
            refine v_callV (ci := 8) X mv_X7_165 (c_X7_returns l γ _) rfl rfl (rd_Model γ _) rfl ⟨Nat.le_of_ble_eq_true rfl, Nat.le_of_ble_eq_true rfl, Nat.le_of_ble_eq_true rfl, Nat.le_of_ble_eq_true rfl⟩ (Nat.le_of_ble_eq_true rfl) rfl dX7_emptyAfter_44 rfl (det_v ?_)
            try simp (disch := decide) only [ws_11_10, ws_12_10, ws_12_11, ws_13_10, ws_13_11, ws_13_12, ws_14_10, ws_14_11, ws_14_12, ws_14_13, ws_15_10, ws_15_11, ws_15_12, ws_15_13, ws_15_14, wset_wset, ws_same, ws_ne, wh_ws]
            rw [as_back hzN, wset_self]
            refine v_iload_n X rfl dX7_emptyAfter_47 ?_
            refine v_if_eq_t (tgt := 55) X dX7_emptyAfter_48 (by decide) (by decide) ?_
            refine v_sipush' X ks_m1001 dX7_emptyAfter_55 ?_
            subst hQ0
            exact v_iret X rfl (Nat.le_of_ble_eq_true rfl) (Nat.le_of_ble_eq_true rfl) dX7_emptyAfter_58 ⟨so_some (by unfold s_emp; rw [← hF, hE]; first | rw [if_pos q3] | rw [if_neg q3]), rfl⟩
          · refine v_iconst' X kc_1 dX7_emptyAfter_37 ?_
            refine v_goto (tgt := 42) X dX7_emptyAfter_38 (by decide) ?_
            refine v_istore_n X (Nat.le_of_ble_eq_true rfl) rfl dX7_emptyAfter_42 ?_
            refine v_aload_n X rfl dX7_emptyAfter_43 ?_
            refine v_callV (ci := 8) X mv_X7_165 (c_X7_returns l γ _) rfl rfl (rd_Model γ _) rfl ⟨Nat.le_of_ble_eq_true rfl, Nat.le_of_ble_eq_true rfl, Nat.le_of_ble_eq_true rfl, Nat.le_of_ble_eq_true rfl⟩ (Nat.le_of_ble_eq_true rfl) rfl dX7_emptyAfter_44 rfl (det_v ?_)
            try simp (disch := decide) only [ws_11_10, ws_12_10, ws_12_11, ws_13_10, ws_13_11, ws_13_12, ws_14_10, ws_14_11, ws_14_12, ws_14_13, ws_15_10, ws_15_11, ws_15_12, ws_15_13, ws_15_14, wset_wset, ws_same, ws_ne, wh_ws]
            rw [as_back hzN, wset_self]
            refine v_iload_n X rfl dX7_emptyAfter_47 ?_
            refine v_if_eq_f (tgt := 55) X dX7_emptyAfter_48 (by decide) (by decide) ?_
            refine v_iload_n X rfl dX7_emptyAfter_51 ?_
            refine v_goto (tgt := 58) X dX7_emptyAfter_52 (by decide) ?_
            subst hQ0
            exact v_iret X rfl (Nat.le_of_ble_eq_true rfl) (Nat.le_of_ble_eq_true rfl) dX7_emptyAfter_58 ⟨so_some (by unfold s_emp; rw [← hF, hE]; first | rw [if_pos q3] | rw [if_neg q3]), rfl⟩
        · have hback := ih (k + 1) f (q_second N) ⟨by omega, by omega⟩ (VM_second hvN) (fun j hj => (q_second_off hvN (by omega) (by omega) (by omega) (by omega) (by omega) (by omega) (by omega) (by omega)).trans (hzN j hj)) (by rw [← hF]; show _ = if _ then _ else _; rw [if_neg q2])
          refine v_aload_n X rfl dX7_emptyAfter_20 ?_
          refine v_callV (ci := 8) X mv_X7_133 (c_X7_second'' l γ _ cn (by exact hvN)) rfl rfl (rd_Model γ _) rfl ⟨Nat.le_of_ble_eq_true rfl, Nat.le_of_ble_eq_true rfl, Nat.le_of_ble_eq_true rfl, Nat.le_of_ble_eq_true rfl⟩ (Nat.le_of_ble_eq_true rfl) rfl dX7_emptyAfter_21 rfl (det_v ?_)
          try simp (disch := decide) only [ws_11_10, ws_12_10, ws_12_11, ws_13_10, ws_13_11, ws_13_12, ws_14_10, ws_14_11, ws_14_12, ws_14_13, ws_15_10, ws_15_11, ws_15_12, ws_15_13, ws_15_14, wset_wset, ws_same, ws_ne, wh_ws]
          refine v_iinc' X rfl rfl (nI_inc _) dX7_emptyAfter_24 ?_
          refine v_goto (tgt := 6) X dX7_emptyAfter_27 (by decide) ?_
          exact v_Ln (hback) ⟨Or.inr rfl, Or.inr rfl, Or.inl rfl, trivial⟩
  have hy := lp6 401 0 400 (W.1 10) ⟨by omega, by omega⟩ hv (fun _ _ => rfl) rfl
  rw [wset_self] at hy
  exact v_Ln (hy) ⟨Or.inr rfl, Or.inr rfl, Or.inl rfl, trivial⟩
set_option maxHeartbeats 4000000 in
set_option maxRecDepth 100000 in
theorem c_X7_count (l : Launch) (γ : Gm) (W : Wd) (cn : Nat) (hv : VM (W.1 10) cn) (u t : Nat) (hu : W.1 15 0 = nI u) (ht : W.1 15 1 = nI t) (x : Int32) : Cr l γ yX7_count cX7_count 2 (some .int) 2 44 0 0 [.ref (γ.1 + 86), .int x] (rdw γ W) (Det (some (.int (s_count (W.1 10) cn u t x))) (rdw γ W)) := by
  refine Cr_of [some (.ref (γ.1 + 86)), some (.int x)] (by decide +kernel) (Nat.le_of_ble_eq_true rfl) rfl ?_
  intro p e s m args below meth c X
  refine v_q0 (fun Q0 hQ0 => ?_)
  refine v_iload_n X rfl dX7_count_0 ?_
  by_cases hsw : ¬ x < nI 0 ∧ ¬ nI 18 < x
  · obtain ⟨jj, hjj, rfl⟩ := in_nat (by decide) hsw
    rcases (by omega : jj = 0 ∨ jj = 1 ∨ jj = 2 ∨ jj = 3 ∨ jj = 4 ∨ jj = 5 ∨ jj = 6 ∨ jj = 7 ∨ jj = 8 ∨ jj = 9 ∨ jj = 10 ∨ jj = 11 ∨ jj = 12 ∨ jj = 13 ∨ jj = 14 ∨ jj = 15 ∨ jj = 16 ∨ jj = 17 ∨ jj = 18) with rfl | rfl | rfl | rfl | rfl | rfl | rfl | rfl | rfl | rfl | rfl | rfl | rfl | rfl | rfl | rfl | rfl | rfl | rfl
    · refine v_tableIn (tgt := 92) (off := 91) X dX7_count_1 (by decide) (by decide) (by decide) (by decide) ?_
      refine v_aload_n X rfl dX7_count_92 ?_
      refine v_getf X fd_X7_7 (rd_Model γ _) rfl dX7_count_93 ?_
      refine v_sipush' X ks_218 dX7_count_96 ?_
      refine v_iload_n X rfl dX7_count_99 ?_
      refine v_iadd' X (nI_add _ _) dX7_count_100 ?_
      refine v_iald' X (v := ((W.1 10) ((218 + 0)))) (rd_M γ _) ((218 + 0)) rfl (by omega) (by decide) (vw_at (by omega)) dX7_count_101 ?_
      subst hQ0
      exact v_iret X rfl (Nat.le_of_ble_eq_true rfl) (Nat.le_of_ble_eq_true rfl) dX7_count_102 ⟨so_some (by unfold s_count; first | (rw [if_pos hsw, nI_clamp (by decide)]; first | exact hu | exact ht | rfl) | rw [if_neg hsw]), rfl⟩
    · refine v_tableIn (tgt := 92) (off := 91) X dX7_count_1 (by decide) (by decide) (by decide) (by decide) ?_
      refine v_aload_n X rfl dX7_count_92 ?_
      refine v_getf X fd_X7_7 (rd_Model γ _) rfl dX7_count_93 ?_
      refine v_sipush' X ks_218 dX7_count_96 ?_
      refine v_iload_n X rfl dX7_count_99 ?_
      refine v_iadd' X (nI_add _ _) dX7_count_100 ?_
      refine v_iald' X (v := ((W.1 10) ((218 + 1)))) (rd_M γ _) ((218 + 1)) rfl (by omega) (by decide) (vw_at (by omega)) dX7_count_101 ?_
      subst hQ0
      exact v_iret X rfl (Nat.le_of_ble_eq_true rfl) (Nat.le_of_ble_eq_true rfl) dX7_count_102 ⟨so_some (by unfold s_count; first | (rw [if_pos hsw, nI_clamp (by decide)]; first | exact hu | exact ht | rfl) | rw [if_neg hsw]), rfl⟩
    · refine v_tableIn (tgt := 92) (off := 91) X dX7_count_1 (by decide) (by decide) (by decide) (by decide) ?_
      refine v_aload_n X rfl dX7_count_92 ?_
      refine v_getf X fd_X7_7 (rd_Model γ _) rfl dX7_count_93 ?_
      refine v_sipush' X ks_218 dX7_count_96 ?_
      refine v_iload_n X rfl dX7_count_99 ?_
      refine v_iadd' X (nI_add _ _) dX7_count_100 ?_
      refine v_iald' X (v := ((W.1 10) ((218 + 2)))) (rd_M γ _) ((218 + 2)) rfl (by omega) (by decide) (vw_at (by omega)) dX7_count_101 ?_
      subst hQ0
      exact v_iret X rfl (Nat.le_of_ble_eq_true rfl) (Nat.le_of_ble_eq_true rfl) dX7_count_102 ⟨so_some (by unfold s_count; first | (rw [if_pos hsw, nI_clamp (by decide)]; first | exact hu | exact ht | rfl) | rw [if_neg hsw]), rfl⟩
    · refine v_tableIn (tgt := 92) (off := 91) X dX7_count_1 (by decide) (by decide) (by decide) (by decide) ?_
      refine v_aload_n X rfl dX7_count_92 ?_
      refine v_getf X fd_X7_7 (rd_Model γ _) rfl dX7_count_93 ?_
      refine v_sipush' X ks_218 dX7_count_96 ?_
      refine v_iload_n X rfl dX7_count_99 ?_
      refine v_iadd' X (nI_add _ _) dX7_count_100 ?_
      refine v_iald' X (v := ((W.1 10) ((218 + 3)))) (rd_M γ _) ((218 + 3)) rfl (by omega) (by decide) (vw_at (by omega)) dX7_count_101 ?_
      subst hQ0
      exact v_iret X rfl (Nat.le_of_ble_eq_true rfl) (Nat.le_of_ble_eq_true rfl) dX7_count_102 ⟨so_some (by unfold s_count; first | (rw [if_pos hsw, nI_clamp (by decide)]; first | exact hu | exact ht | rfl) | rw [if_neg hsw]), rfl⟩
    · refine v_tableIn (tgt := 92) (off := 91) X dX7_count_1 (by decide) (by decide) (by decide) (by decide) ?_
      refine v_aload_n X rfl dX7_count_92 ?_
      refine v_getf X fd_X7_7 (rd_Model γ _) rfl dX7_count_93 ?_
      refine v_sipush' X ks_218 dX7_count_96 ?_
      refine v_iload_n X rfl dX7_count_99 ?_
      refine v_iadd' X (nI_add _ _) dX7_count_100 ?_
      refine v_iald' X (v := ((W.1 10) ((218 + 4)))) (rd_M γ _) ((218 + 4)) rfl (by omega) (by decide) (vw_at (by omega)) dX7_count_101 ?_
      subst hQ0
      exact v_iret X rfl (Nat.le_of_ble_eq_true rfl) (Nat.le_of_ble_eq_true rfl) dX7_count_102 ⟨so_some (by unfold s_count; first | (rw [if_pos hsw, nI_clamp (by decide)]; first | exact hu | exact ht | rfl) | rw [if_neg hsw]), rfl⟩
    · refine v_tableIn (tgt := 92) (off := 91) X dX7_count_1 (by decide) (by decide) (by decide) (by decide) ?_
      refine v_aload_n X rfl dX7_count_92 ?_
      refine v_getf X fd_X7_7 (rd_Model γ _) rfl dX7_count_93 ?_
      refine v_sipush' X ks_218 dX7_count_96 ?_
      refine v_iload_n X rfl dX7_count_99 ?_
      refine v_iadd' X (nI_add _ _) dX7_count_100 ?_
      refine v_iald' X (v := ((W.1 10) ((218 + 5)))) (rd_M γ _) ((218 + 5)) rfl (by omega) (by decide) (vw_at (by omega)) dX7_count_101 ?_
      subst hQ0
      exact v_iret X rfl (Nat.le_of_ble_eq_true rfl) (Nat.le_of_ble_eq_true rfl) dX7_count_102 ⟨so_some (by unfold s_count; first | (rw [if_pos hsw, nI_clamp (by decide)]; first | exact hu | exact ht | rfl) | rw [if_neg hsw]), rfl⟩
    · refine v_tableIn (tgt := 92) (off := 91) X dX7_count_1 (by decide) (by decide) (by decide) (by decide) ?_
      refine v_aload_n X rfl dX7_count_92 ?_
      refine v_getf X fd_X7_7 (rd_Model γ _) rfl dX7_count_93 ?_
      refine v_sipush' X ks_218 dX7_count_96 ?_
      refine v_iload_n X rfl dX7_count_99 ?_
      refine v_iadd' X (nI_add _ _) dX7_count_100 ?_
      refine v_iald' X (v := ((W.1 10) ((218 + 6)))) (rd_M γ _) ((218 + 6)) rfl (by omega) (by decide) (vw_at (by omega)) dX7_count_101 ?_
      subst hQ0
      exact v_iret X rfl (Nat.le_of_ble_eq_true rfl) (Nat.le_of_ble_eq_true rfl) dX7_count_102 ⟨so_some (by unfold s_count; first | (rw [if_pos hsw, nI_clamp (by decide)]; first | exact hu | exact ht | rfl) | rw [if_neg hsw]), rfl⟩
    · refine v_tableIn (tgt := 92) (off := 91) X dX7_count_1 (by decide) (by decide) (by decide) (by decide) ?_
      refine v_aload_n X rfl dX7_count_92 ?_
      refine v_getf X fd_X7_7 (rd_Model γ _) rfl dX7_count_93 ?_
      refine v_sipush' X ks_218 dX7_count_96 ?_
      refine v_iload_n X rfl dX7_count_99 ?_
      refine v_iadd' X (nI_add _ _) dX7_count_100 ?_
      refine v_iald' X (v := ((W.1 10) ((218 + 7)))) (rd_M γ _) ((218 + 7)) rfl (by omega) (by decide) (vw_at (by omega)) dX7_count_101 ?_
      subst hQ0
      exact v_iret X rfl (Nat.le_of_ble_eq_true rfl) (Nat.le_of_ble_eq_true rfl) dX7_count_102 ⟨so_some (by unfold s_count; first | (rw [if_pos hsw, nI_clamp (by decide)]; first | exact hu | exact ht | rfl) | rw [if_neg hsw]), rfl⟩
    · refine v_tableIn (tgt := 103) (off := 102) X dX7_count_1 (by decide) (by decide) (by decide) (by decide) ?_
      refine v_aload_n X rfl dX7_count_103 ?_
      refine v_callV (ci := 8) X mv_X7_127 (c_X7_inWagons' l γ _ cn (by exact hv)) rfl rfl (rd_Model γ _) rfl ⟨Nat.le_of_ble_eq_true rfl, Nat.le_of_ble_eq_true rfl, Nat.le_of_ble_eq_true rfl, Nat.le_of_ble_eq_true rfl⟩ (Nat.le_of_ble_eq_true rfl) rfl dX7_count_104 rfl (det_i ?_)
      try simp (disch := decide) only [ws_11_10, ws_12_10, ws_12_11, ws_13_10, ws_13_11, ws_13_12, ws_14_10, ws_14_11, ws_14_12, ws_14_13, ws_15_10, ws_15_11, ws_15_12, ws_15_13, ws_15_14, wset_wset, ws_same, ws_ne, wh_ws]
      subst hQ0
      exact v_iret X rfl (Nat.le_of_ble_eq_true rfl) (Nat.le_of_ble_eq_true rfl) dX7_count_107 ⟨so_some (by unfold s_count; first | (rw [if_pos hsw, nI_clamp (by decide)]; first | exact hu | exact ht | rfl) | rw [if_neg hsw]), rfl⟩
    · refine v_tableIn (tgt := 108) (off := 107) X dX7_count_1 (by decide) (by decide) (by decide) (by decide) ?_
      refine v_aload_n X rfl dX7_count_108 ?_
      refine v_callV (ci := 8) X mv_X7_153 (c_X7_onTrack l γ _) rfl rfl (rd_Model γ _) rfl ⟨Nat.le_of_ble_eq_true rfl, Nat.le_of_ble_eq_true rfl, Nat.le_of_ble_eq_true rfl, Nat.le_of_ble_eq_true rfl⟩ (Nat.le_of_ble_eq_true rfl) rfl dX7_count_109 rfl (det_i ?_)
      subst hQ0
      exact v_iret X rfl (Nat.le_of_ble_eq_true rfl) (Nat.le_of_ble_eq_true rfl) dX7_count_112 ⟨so_some (by unfold s_count; first | (rw [if_pos hsw, nI_clamp (by decide)]; first | exact hu | exact ht | rfl) | rw [if_neg hsw]), rfl⟩
    · refine v_tableIn (tgt := 113) (off := 112) X dX7_count_1 (by decide) (by decide) (by decide) (by decide) ?_
      refine v_aload_n X rfl dX7_count_113 ?_
      refine v_getf X fd_X7_7 (rd_Model γ _) rfl dX7_count_114 ?_
      refine v_sipush' X ks_226 dX7_count_117 ?_
      refine v_iald' X (v := ((W.1 10) (226))) (rd_M γ _) (226) rfl (by omega) (by decide) (vw_at (by omega)) dX7_count_120 ?_
      subst hQ0
      exact v_iret X rfl (Nat.le_of_ble_eq_true rfl) (Nat.le_of_ble_eq_true rfl) dX7_count_121 ⟨so_some (by unfold s_count; first | (rw [if_pos hsw, nI_clamp (by decide)]; first | exact hu | exact ht | rfl) | rw [if_neg hsw]), rfl⟩
    · refine v_tableIn (tgt := 122) (off := 121) X dX7_count_1 (by decide) (by decide) (by decide) (by decide) ?_
      refine v_aload_n X rfl dX7_count_122 ?_
      refine v_getf X fd_X7_7 (rd_Model γ _) rfl dX7_count_123 ?_
      refine v_sipush' X ks_227 dX7_count_126 ?_
      refine v_iald' X (v := ((W.1 10) (227))) (rd_M γ _) (227) rfl (by omega) (by decide) (vw_at (by omega)) dX7_count_129 ?_
      subst hQ0
      exact v_iret X rfl (Nat.le_of_ble_eq_true rfl) (Nat.le_of_ble_eq_true rfl) dX7_count_130 ⟨so_some (by unfold s_count; first | (rw [if_pos hsw, nI_clamp (by decide)]; first | exact hu | exact ht | rfl) | rw [if_neg hsw]), rfl⟩
    · refine v_tableIn (tgt := 131) (off := 130) X dX7_count_1 (by decide) (by decide) (by decide) (by decide) ?_
      refine v_aload_n X rfl dX7_count_131 ?_
      refine v_getf X (v := .int ((W.1 15) 0)) fd_X7_37 (rd_Model γ _) rfl dX7_count_132 ?_
      subst hQ0
      exact v_iret X rfl (Nat.le_of_ble_eq_true rfl) (Nat.le_of_ble_eq_true rfl) dX7_count_135 ⟨so_some (by unfold s_count; first | (rw [if_pos hsw, nI_clamp (by decide)]; first | exact hu | exact ht | rfl) | rw [if_neg hsw]), rfl⟩
    · refine v_tableIn (tgt := 136) (off := 135) X dX7_count_1 (by decide) (by decide) (by decide) (by decide) ?_
      refine v_aload_n X rfl dX7_count_136 ?_
      refine v_getf X (v := .int ((W.1 15) 1)) fd_X7_41 (rd_Model γ _) rfl dX7_count_137 ?_
      subst hQ0
      exact v_iret X rfl (Nat.le_of_ble_eq_true rfl) (Nat.le_of_ble_eq_true rfl) dX7_count_140 ⟨so_some (by unfold s_count; first | (rw [if_pos hsw, nI_clamp (by decide)]; first | exact hu | exact ht | rfl) | rw [if_neg hsw]), rfl⟩
    · refine v_tableIn (tgt := 141) (off := 140) X dX7_count_1 (by decide) (by decide) (by decide) (by decide) ?_
      refine v_aload_n X rfl dX7_count_141 ?_
      refine v_getf X fd_X7_7 (rd_Model γ _) rfl dX7_count_142 ?_
      refine v_sipush' X ks_228 dX7_count_145 ?_
      refine v_iload_n X rfl dX7_count_148 ?_
      refine v_iadd' X (nI_add _ _) dX7_count_149 ?_
      refine v_bipush' X kb_14 dX7_count_150 ?_
      refine v_isub' X (v := nI ((228 + 14) - 14)) (pk_sub (by decide)) dX7_count_152 ?_
      refine v_iald' X (v := ((W.1 10) (((228 + 14) - 14)))) (rd_M γ _) (((228 + 14) - 14)) rfl (by omega) (by decide) (vw_at (by omega)) dX7_count_153 ?_
      subst hQ0
      exact v_iret X rfl (Nat.le_of_ble_eq_true rfl) (Nat.le_of_ble_eq_true rfl) dX7_count_154 ⟨so_some (by unfold s_count; first | (rw [if_pos hsw, nI_clamp (by decide)]; first | exact hu | exact ht | rfl) | rw [if_neg hsw]), rfl⟩
    · refine v_tableIn (tgt := 141) (off := 140) X dX7_count_1 (by decide) (by decide) (by decide) (by decide) ?_
      refine v_aload_n X rfl dX7_count_141 ?_
      refine v_getf X fd_X7_7 (rd_Model γ _) rfl dX7_count_142 ?_
      refine v_sipush' X ks_228 dX7_count_145 ?_
      refine v_iload_n X rfl dX7_count_148 ?_
      refine v_iadd' X (nI_add _ _) dX7_count_149 ?_
      refine v_bipush' X kb_14 dX7_count_150 ?_
      refine v_isub' X (v := nI ((228 + 15) - 14)) (pk_sub (by decide)) dX7_count_152 ?_
      refine v_iald' X (v := ((W.1 10) (((228 + 15) - 14)))) (rd_M γ _) (((228 + 15) - 14)) rfl (by omega) (by decide) (vw_at (by omega)) dX7_count_153 ?_
      subst hQ0
      exact v_iret X rfl (Nat.le_of_ble_eq_true rfl) (Nat.le_of_ble_eq_true rfl) dX7_count_154 ⟨so_some (by unfold s_count; first | (rw [if_pos hsw, nI_clamp (by decide)]; first | exact hu | exact ht | rfl) | rw [if_neg hsw]), rfl⟩
    · refine v_tableIn (tgt := 141) (off := 140) X dX7_count_1 (by decide) (by decide) (by decide) (by decide) ?_
      refine v_aload_n X rfl dX7_count_141 ?_
      refine v_getf X fd_X7_7 (rd_Model γ _) rfl dX7_count_142 ?_
      refine v_sipush' X ks_228 dX7_count_145 ?_
      refine v_iload_n X rfl dX7_count_148 ?_
      refine v_iadd' X (nI_add _ _) dX7_count_149 ?_
      refine v_bipush' X kb_14 dX7_count_150 ?_
      refine v_isub' X (v := nI ((228 + 16) - 14)) (pk_sub (by decide)) dX7_count_152 ?_
      refine v_iald' X (v := ((W.1 10) (((228 + 16) - 14)))) (rd_M γ _) (((228 + 16) - 14)) rfl (by omega) (by decide) (vw_at (by omega)) dX7_count_153 ?_
      subst hQ0
      exact v_iret X rfl (Nat.le_of_ble_eq_true rfl) (Nat.le_of_ble_eq_true rfl) dX7_count_154 ⟨so_some (by unfold s_count; first | (rw [if_pos hsw, nI_clamp (by decide)]; first | exact hu | exact ht | rfl) | rw [if_neg hsw]), rfl⟩
    · refine v_tableIn (tgt := 141) (off := 140) X dX7_count_1 (by decide) (by decide) (by decide) (by decide) ?_
      refine v_aload_n X rfl dX7_count_141 ?_
      refine v_getf X fd_X7_7 (rd_Model γ _) rfl dX7_count_142 ?_
      refine v_sipush' X ks_228 dX7_count_145 ?_
      refine v_iload_n X rfl dX7_count_148 ?_
      refine v_iadd' X (nI_add _ _) dX7_count_149 ?_
      refine v_bipush' X kb_14 dX7_count_150 ?_
      refine v_isub' X (v := nI ((228 + 17) - 14)) (pk_sub (by decide)) dX7_count_152 ?_
      refine v_iald' X (v := ((W.1 10) (((228 + 17) - 14)))) (rd_M γ _) (((228 + 17) - 14)) rfl (by omega) (by decide) (vw_at (by omega)) dX7_count_153 ?_
      subst hQ0
      exact v_iret X rfl (Nat.le_of_ble_eq_true rfl) (Nat.le_of_ble_eq_true rfl) dX7_count_154 ⟨so_some (by unfold s_count; first | (rw [if_pos hsw, nI_clamp (by decide)]; first | exact hu | exact ht | rfl) | rw [if_neg hsw]), rfl⟩
    · refine v_tableIn (tgt := 141) (off := 140) X dX7_count_1 (by decide) (by decide) (by decide) (by decide) ?_
      refine v_aload_n X rfl dX7_count_141 ?_
      refine v_getf X fd_X7_7 (rd_Model γ _) rfl dX7_count_142 ?_
      refine v_sipush' X ks_228 dX7_count_145 ?_
      refine v_iload_n X rfl dX7_count_148 ?_
      refine v_iadd' X (nI_add _ _) dX7_count_149 ?_
      refine v_bipush' X kb_14 dX7_count_150 ?_
      refine v_isub' X (v := nI ((228 + 18) - 14)) (pk_sub (by decide)) dX7_count_152 ?_
      refine v_iald' X (v := ((W.1 10) (((228 + 18) - 14)))) (rd_M γ _) (((228 + 18) - 14)) rfl (by omega) (by decide) (vw_at (by omega)) dX7_count_153 ?_
      subst hQ0
      exact v_iret X rfl (Nat.le_of_ble_eq_true rfl) (Nat.le_of_ble_eq_true rfl) dX7_count_154 ⟨so_some (by unfold s_count; first | (rw [if_pos hsw, nI_clamp (by decide)]; first | exact hu | exact ht | rfl) | rw [if_neg hsw]), rfl⟩
  · refine v_tableOut (tgt := 155) X dX7_count_1 (sw_out (by decide) hsw) (by decide) ?_
    refine v_sipush' X ks_m1002 dX7_count_155 ?_
    subst hQ0
    exact v_iret X rfl (Nat.le_of_ble_eq_true rfl) (Nat.le_of_ble_eq_true rfl) dX7_count_158 ⟨so_some (by unfold s_count; first | (rw [if_pos hsw, nI_clamp (by decide)]; first | exact hu | exact ht | rfl) | rw [if_neg hsw]), rfl⟩
set_option maxHeartbeats 4000000 in
set_option maxRecDepth 100000 in
theorem c_X7_mixes (l : Launch) (γ : Gm) (W : Wd) (x : Int32) : Cr l γ yX7_mixes cX7_mixes 2 none 0 0 0 0 [.ref (γ.1 + 86), .int x] (rdw γ W) (Det none (rdw γ (wha W (s_mix W.2.2.2.1 x)))) := by
  refine Cr_of [some (.ref (γ.1 + 86)), some (.int x)] (by decide +kernel) (Nat.le_of_ble_eq_true rfl) rfl ?_
  intro p e s m args below meth c X
  refine v_q0 (fun Q0 hQ0 => ?_)
  refine v_aload_n X rfl dX7_mixes_0 ?_
  refine v_ldc2 X kl_X7_168 dX7_mixes_1 ?_
  refine v_aload_n X rfl dX7_mixes_4 ?_
  refine v_getf X fd_X7_170 (rd_Model γ _) rfl dX7_mixes_5 ?_
  refine v_lmul X dX7_mixes_8 ?_
  refine v_iload_n X rfl dX7_mixes_9 ?_
  refine v_i2l X dX7_mixes_10 ?_
  refine v_ladd X dX7_mixes_11 ?_
  refine v_putf X fp_X7_170 (rd_Model γ _) rfl rfl (Nat.le_of_ble_eq_true rfl) dX7_mixes_12 ?_
  refine v_eqh (up_hash γ _ _) ?_
  subst hQ0
  exact v_vret X rfl (Nat.le_of_ble_eq_true rfl) (Nat.le_of_ble_eq_true rfl) dX7_mixes_15 ⟨rfl, rfl⟩
set_option maxHeartbeats 4000000 in
set_option maxRecDepth 100000 in
theorem c_X7_mixesWagon (l : Launch) (γ : Gm) (W : Wd) (cn : Nat) (hv : VM (W.1 10) cn) (a : Nat) (h : Int64) : Cr l γ yX7_mixesWagon cX7_mixesWagon 3 none 3 67 0 0 [.ref (γ.1 + 86), .int (nI a)] (rdw γ (wha W (h))) (Det none (rdw γ (wha W (s_mixW (W.1 10) cn a h)))) := by
  refine Cr_of [some (.ref (γ.1 + 86)), some (.int (nI a)), none] (by decide +kernel) (Nat.le_of_ble_eq_true rfl) rfl ?_
  intro p e s m args below meth c X
  refine v_q0 (fun Q0 hQ0 => ?_)
  refine v_iconst' X kc_0 dX7_mixesWagon_0 ?_
  refine v_istore_n X (Nat.le_of_ble_eq_true rfl) rfl dX7_mixesWagon_1 ?_
  have lp2 : ∀ (n : Nat) (k : Nat), k ≤ 5 ∧ 6 ≤ k + n → V p l e { frames := 3, cells := 0, slots := 0, locals := 67 } s m args below meth c γ Q0 (rdw γ (wha W (s_mixN (fun k => s_wag (W.1 10) cn (nI a) (nI k)) h k))) 0 0 2 [some (.ref (γ.1 + 86)), some (.int (nI a)), some (.int (nI k))] [] := by
    intro n
    induction n with
    | zero =>
      intro k hbd
      exact absurd hbd (by omega)
    | succ n ih =>
      intro k hbd
      refine v_iload_n X rfl dX7_mixesWagon_2 ?_
      refine v_iconst' X kc_5 dX7_mixesWagon_3 ?_
      refine v_icmp_ge_n (tgt := 23) X dX7_mixesWagon_4 (by decide) (by omega) (by omega) (fun c_1 => ?_) (fun c_1 => ?_)
      · have hk : k = 5 := by omega
        subst hk
        refine v_iconst' X kc_0 dX7_mixesWagon_23 ?_
        refine v_istore_n X (Nat.le_of_ble_eq_true rfl) rfl dX7_mixesWagon_24 ?_
        have lp25 : ∀ (n2 : Nat) (k : Nat), k ≤ 6 ∧ 7 ≤ k + n2 → V p l e { frames := 3, cells := 0, slots := 0, locals := 67 } s m args below meth c γ Q0 (rdw γ (wha W (s_mixN (fun k => s_door (W.1 10) cn (nI a) (nI (k / 2)) (nI (k % 2))) (s_mixN (fun k => s_wag (W.1 10) cn (nI a) (nI k)) h 5) k))) 0 0 25 [some (.ref (γ.1 + 86)), some (.int (nI a)), some (.int (nI k))] [] := by
          intro n2
          induction n2 with
          | zero =>
            intro k hbd2
            exact absurd hbd2 (by omega)
          | succ n2 ih2 =>
            intro k hbd2
            refine v_iload_n X rfl dX7_mixesWagon_25 ?_
            refine v_bipush' X kb_6 dX7_mixesWagon_26 ?_
            refine v_icmp_ge_n (tgt := 52) X dX7_mixesWagon_28 (by decide) (by omega) (by omega) (fun c_2 => ?_) (fun c_2 => ?_)
            · have hk : k = 6 := by omega
              subst hk
              subst hQ0
              exact v_vret X rfl (Nat.le_of_ble_eq_true rfl) (Nat.le_of_ble_eq_true rfl) dX7_mixesWagon_52 ⟨rfl, rfl⟩
            · refine v_aload_n X rfl dX7_mixesWagon_31 ?_
              refine v_aload_n X rfl dX7_mixesWagon_32 ?_
              refine v_iload_n X rfl dX7_mixesWagon_33 ?_
              refine v_iload_n X rfl dX7_mixesWagon_34 ?_
              refine v_iconst' X kc_2 dX7_mixesWagon_35 ?_
              refine v_idiv' X (by omega) (by decide) (by decide) dX7_mixesWagon_36 ?_
              refine v_iload_n X rfl dX7_mixesWagon_37 ?_
              refine v_iconst' X kc_2 dX7_mixesWagon_38 ?_
              refine v_irem' X (by omega) (by decide) (by decide) dX7_mixesWagon_39 ?_
              refine v_callV (ci := 8) X mv_X7_180 (c_X7_doorOf l γ _ cn (by exact hv) _ _ _) rfl rfl (rd_Model γ _) rfl ⟨Nat.le_of_ble_eq_true rfl, Nat.le_of_ble_eq_true rfl, Nat.le_of_ble_eq_true rfl, Nat.le_of_ble_eq_true rfl⟩ (Nat.le_of_ble_eq_true rfl) rfl dX7_mixesWagon_40 rfl (det_i ?_)
              refine v_callV (ci := 8) X mv_X7_177 (c_X7_mixes l γ _ _) rfl rfl (rd_Model γ _) rfl ⟨Nat.le_of_ble_eq_true rfl, Nat.le_of_ble_eq_true rfl, Nat.le_of_ble_eq_true rfl, Nat.le_of_ble_eq_true rfl⟩ (Nat.le_of_ble_eq_true rfl) rfl dX7_mixesWagon_43 rfl (det_v ?_)
              refine v_iinc' X rfl rfl (nI_inc _) dX7_mixesWagon_46 ?_
              refine v_goto (tgt := 25) X dX7_mixesWagon_49 (by decide) ?_
              exact (ih2 (k + 1) ⟨by omega, by omega⟩)
        exact (lp25 7 0 ⟨by omega, by omega⟩)
      · refine v_aload_n X rfl dX7_mixesWagon_7 ?_
        refine v_aload_n X rfl dX7_mixesWagon_8 ?_
        refine v_iload_n X rfl dX7_mixesWagon_9 ?_
        refine v_iload_n X rfl dX7_mixesWagon_10 ?_
        refine v_callV (ci := 8) X mv_X7_174 (c_X7_wagon l γ _ cn (by exact hv) _ _) rfl rfl (rd_Model γ _) rfl ⟨Nat.le_of_ble_eq_true rfl, Nat.le_of_ble_eq_true rfl, Nat.le_of_ble_eq_true rfl, Nat.le_of_ble_eq_true rfl⟩ (Nat.le_of_ble_eq_true rfl) rfl dX7_mixesWagon_11 rfl (det_i ?_)
        refine v_callV (ci := 8) X mv_X7_177 (c_X7_mixes l γ _ _) rfl rfl (rd_Model γ _) rfl ⟨Nat.le_of_ble_eq_true rfl, Nat.le_of_ble_eq_true rfl, Nat.le_of_ble_eq_true rfl, Nat.le_of_ble_eq_true rfl⟩ (Nat.le_of_ble_eq_true rfl) rfl dX7_mixesWagon_14 rfl (det_v ?_)
        refine v_iinc' X rfl rfl (nI_inc _) dX7_mixesWagon_17 ?_
        refine v_goto (tgt := 2) X dX7_mixesWagon_20 (by decide) ?_
        exact (ih (k + 1) ⟨by omega, by omega⟩)
  exact (lp2 6 0 ⟨by omega, by omega⟩)
set_option maxHeartbeats 4000000 in
set_option maxRecDepth 100000 in
theorem c_X7_digest (l : Launch) (γ : Gm) (W : Wd) (cn : Nat) (hv : VM (W.1 10) cn) (u t : Nat) (hu : W.1 15 0 = nI u) (ht : W.1 15 1 = nI t) (h60 : t ≤ 60) (q : Nat) (hq : W.1 10 223 = nI q) (h10 : q ≤ 10) : Cr l γ yX7_digest cX7_digest 2 (some .long) 6 131 0 0 [.ref (γ.1 + 86)] (rdw γ W) (Det (some (.long (s_digest (W.1 10) (W.1 13) cn q u t))) (rdw γ (wha (s_aft W) (s_digest (W.1 10) (W.1 13) cn q u t)))) := by
  have hc1 := hv.1
  have hc6 := hv.2.1.2
  obtain ⟨D1, e1⟩ : ∃ x, s_mixN (fun k => s_count (W.1 10) cn u t (nI k)) 149 19 = x := ⟨_, rfl⟩
  obtain ⟨D2, e2⟩ : ∃ x, s_mixWs (W.1 10) cn D1 cn = x := ⟨_, rfl⟩
  obtain ⟨D3, e3⟩ : ∃ x, s_mixN (W.1 10) D2 120 = x := ⟨_, rfl⟩
  obtain ⟨D4, e4⟩ : ∃ x, s_mixN (fun k => s_prof (W.1 10) (nI (k / 6)) (nI (k % 6))) D3 18 = x := ⟨_, rfl⟩
  obtain ⟨D5, e5⟩ : ∃ x, s_mix D4 (s_lack (W.1 10) (-1)) = x := ⟨_, rfl⟩
  obtain ⟨D6, e6⟩ : ∃ x, s_mixN (fun k => W.1 10 (168 + k)) D5 (5 * q) = x := ⟨_, rfl⟩
  obtain ⟨D7, e7⟩ : ∃ x, s_mixN (fun k => s_fore (W.1 10) cn (nI 20) (nI k)) D6 7 = x := ⟨_, rfl⟩
  obtain ⟨D8, e8⟩ : ∃ x, s_mix D7 (s_emp (W.1 10) cn) = x := ⟨_, rfl⟩
  have hD : s_digest (W.1 10) (W.1 13) cn q u t = s_mixN (W.1 13) D8 t := by rw [← e8, ← e7, ← e6, ← e5, ← e4, ← e3, ← e2, ← e1]; rfl
  rw [hD]
  refine Cr_of [some (.ref (γ.1 + 86)), none] (by decide +kernel) (Nat.le_of_ble_eq_true rfl) rfl ?_
  intro p e s m args below meth c X
  refine v_q0 (fun Q0 hQ0 => ?_)
  refine v_aload_n X rfl dX7_digest_0 ?_
  refine v_ldc2 X kl_X7_184 dX7_digest_1 ?_
  refine v_putf X fp_X7_170 (rd_Model γ _) rfl rfl (Nat.le_of_ble_eq_true rfl) dX7_digest_4 ?_
  refine v_eqh (up_hash γ _ _) ?_
  refine v_iconst' X kc_0 dX7_digest_7 ?_
  refine v_istore_n X (Nat.le_of_ble_eq_true rfl) rfl dX7_digest_8 ?_
  have lp9 : ∀ (n9 : Nat) (k : Nat), k ≤ 19 ∧ 19 + 1 ≤ k + n9 → V p l e { frames := 6, cells := 0, slots := 0, locals := 131 } s m args below meth c γ Q0 (rdw γ (wha W (s_mixN (fun k => s_count (W.1 10) cn u t (nI k)) 149 k))) 0 0 9 [some (.ref (γ.1 + 86)), some (.int (nI k))] [] := by
    intro n9
    induction n9 with
    | zero =>
      intro k hbd9
      exact absurd hbd9 (by omega)
    | succ n9 ih9 =>
      intro k hbd9
      refine v_iload_n X rfl dX7_digest_9 ?_
      refine v_bipush' X kb_19 dX7_digest_10 ?_
      refine v_icmp_ge_n (tgt := 30) X dX7_digest_12 (by decide) (by omega) (by omega) (fun c_1 => ?_) (fun c_1 => ?_)
      · have hk : 19 = k := by omega
        subst hk
        rw [e1]
        refine v_iconst' X kc_0 dX7_digest_30 ?_
        refine v_istore_n X (Nat.le_of_ble_eq_true rfl) rfl dX7_digest_31 ?_
        have lp32 : ∀ (n32 : Nat) (k : Nat), k ≤ cn ∧ cn + 1 ≤ k + n32 → V p l e { frames := 6, cells := 0, slots := 0, locals := 131 } s m args below meth c γ Q0 (rdw γ (wha W (s_mixWs (W.1 10) cn D1 k))) 0 0 32 [some (.ref (γ.1 + 86)), some (.int (nI k))] [] := by
          intro n32
          induction n32 with
          | zero =>
            intro k hbd32
            exact absurd hbd32 (by omega)
          | succ n32 ih32 =>
            intro k hbd32
            refine v_iload_n X rfl dX7_digest_32 ?_
            refine v_aload_n X rfl dX7_digest_33 ?_
            refine v_getf X fd_X7_7 (rd_Model γ _) rfl dX7_digest_34 ?_
            refine v_sipush' X ks_218 dX7_digest_37 ?_
            refine v_iald' X (v := nI cn) (rd_M γ _) (218) rfl (by omega) (by decide) ((vw_at (by omega)).trans hc1) dX7_digest_40 ?_
            refine v_icmp_ge_n (tgt := 55) X dX7_digest_41 (by decide) (by omega) (by omega) (fun c_2 => ?_) (fun c_2 => ?_)
            · have hk : cn = k := by omega
              subst hk
              rw [e2]
              refine v_iconst' X kc_0 dX7_digest_55 ?_
              refine v_istore_n X (Nat.le_of_ble_eq_true rfl) rfl dX7_digest_56 ?_
              have lp57 : ∀ (n57 : Nat) (k : Nat), k ≤ 120 ∧ 120 + 1 ≤ k + n57 → V p l e { frames := 6, cells := 0, slots := 0, locals := 131 } s m args below meth c γ Q0 (rdw γ (wha W (s_mixN (W.1 10) D2 k))) 0 0 57 [some (.ref (γ.1 + 86)), some (.int (nI k))] [] := by
                intro n57
                induction n57 with
                | zero =>
                  intro k hbd57
                  exact absurd hbd57 (by omega)
                | succ n57 ih57 =>
                  intro k hbd57
                  refine v_iload_n X rfl dX7_digest_57 ?_
                  refine v_bipush' X kb_120 dX7_digest_58 ?_
                  refine v_icmp_ge_n (tgt := 79) X dX7_digest_60 (by decide) (by omega) (by omega) (fun c_3 => ?_) (fun c_3 => ?_)
                  · have hk : 120 = k := by omega
                    subst hk
                    rw [e3]
                    refine v_iconst' X kc_0 dX7_digest_79 ?_
                    refine v_istore_n X (Nat.le_of_ble_eq_true rfl) rfl dX7_digest_80 ?_
                    have lp81 : ∀ (n81 : Nat) (k : Nat), k ≤ 18 ∧ 18 + 1 ≤ k + n81 → V p l e { frames := 6, cells := 0, slots := 0, locals := 131 } s m args below meth c γ Q0 (rdw γ (wha W (s_mixN (fun k => s_prof (W.1 10) (nI (k / 6)) (nI (k % 6))) D3 k))) 0 0 81 [some (.ref (γ.1 + 86)), some (.int (nI k))] [] := by
                      intro n81
                      induction n81 with
                      | zero =>
                        intro k hbd81
                        exact absurd hbd81 (by omega)
                      | succ n81 ih81 =>
                        intro k hbd81
                        refine v_iload_n X rfl dX7_digest_81 ?_
                        refine v_bipush' X kb_18 dX7_digest_82 ?_
                        refine v_icmp_ge_n (tgt := 109) X dX7_digest_84 (by decide) (by omega) (by omega) (fun c_4 => ?_) (fun c_4 => ?_)
                        · have hk : 18 = k := by omega
                          subst hk
                          rw [e4]
                          refine v_aload_n X rfl dX7_digest_109 ?_
                          refine v_aload_n X rfl dX7_digest_110 ?_
                          refine v_iconst' X kc_m1 dX7_digest_111 ?_
                          refine v_callV (ci := 8) X mv_X7_156 (c_X7_lacking l γ _ _) rfl rfl (rd_Model γ _) rfl ⟨Nat.le_of_ble_eq_true rfl, Nat.le_of_ble_eq_true rfl, Nat.le_of_ble_eq_true rfl, Nat.le_of_ble_eq_true rfl⟩ (Nat.le_of_ble_eq_true rfl) rfl dX7_digest_112 rfl (det_i ?_)
                          refine v_callV (ci := 8) X mv_X7_177 (c_X7_mixes l γ _ _) rfl rfl (rd_Model γ _) rfl ⟨Nat.le_of_ble_eq_true rfl, Nat.le_of_ble_eq_true rfl, Nat.le_of_ble_eq_true rfl, Nat.le_of_ble_eq_true rfl⟩ (Nat.le_of_ble_eq_true rfl) rfl dX7_digest_115 rfl (det_v ?_)
                          refine v_eqh (h' := rdw γ (wha W D5)) (by rw [← e5]; rfl) ?_
                          refine v_iconst' X kc_0 dX7_digest_118 ?_
                          refine v_istore_n X (Nat.le_of_ble_eq_true rfl) rfl dX7_digest_119 ?_
                          have lp120 : ∀ (n120 : Nat) (k : Nat), k ≤ 5 * q ∧ 5 * q + 1 ≤ k + n120 → V p l e { frames := 6, cells := 0, slots := 0, locals := 131 } s m args below meth c γ Q0 (rdw γ (wha W (s_mixN (fun k => W.1 10 (168 + k)) D5 k))) 0 0 120 [some (.ref (γ.1 + 86)), some (.int (nI k))] [] := by
                            intro n120
                            induction n120 with
                            | zero =>
                              intro k hbd120
                              exact absurd hbd120 (by omega)
                            | succ n120 ih120 =>
                              intro k hbd120
                              refine v_iload_n X rfl dX7_digest_120 ?_
                              refine v_iconst' X kc_5 dX7_digest_121 ?_
                              refine v_aload_n X rfl dX7_digest_122 ?_
                              refine v_getf X fd_X7_7 (rd_Model γ _) rfl dX7_digest_123 ?_
                              refine v_sipush' X ks_223 dX7_digest_126 ?_
                              refine v_iald' X (v := nI q) (rd_M γ _) (223) rfl (by omega) (by decide) ((vw_at (by omega)).trans hq) dX7_digest_129 ?_
                              refine v_imul' X (pk_mul _ _) dX7_digest_130 ?_
                              refine v_icmp_ge_n (tgt := 154) X dX7_digest_131 (by decide) (by omega) (by omega) (fun c_5 => ?_) (fun c_5 => ?_)
                              · have hk : 5 * q = k := by omega
                                subst hk
                                rw [e6]
                                refine v_iconst' X kc_0 dX7_digest_154 ?_
                                refine v_istore_n X (Nat.le_of_ble_eq_true rfl) rfl dX7_digest_155 ?_
                                have lp156 : ∀ (n156 : Nat) (k : Nat) (A : Nat → Int32), k ≤ 7 ∧ 7 + 1 ≤ k + n156 → s_as A (W.1 10) 233 = s_as (W.1 12) (W.1 10) 233 → V p l e { frames := 6, cells := 0, slots := 0, locals := 131 } s m args below meth c γ Q0 (rdw γ (wha (wset W 12 A) (s_mixN (fun k => s_fore (W.1 10) cn (nI 20) (nI k)) D6 k))) 0 0 156 [some (.ref (γ.1 + 86)), some (.int (nI k))] [] := by
                                  intro n156
                                  induction n156 with
                                  | zero =>
                                    intro k A hbd156
                                    exact absurd hbd156 (by omega)
                                  | succ n156 ih156 =>
                                    intro k A hbd156 hA
                                    refine v_iload_n X rfl dX7_digest_156 ?_
                                    refine v_bipush' X kb_7 dX7_digest_157 ?_
                                    refine v_icmp_ge_n (tgt := 179) X dX7_digest_159 (by decide) (by omega) (by omega) (fun c_6 => ?_) (fun c_6 => ?_)
                                    · have hk : 7 = k := by omega
                                      subst hk
                                      rw [e7]
                                      refine v_aload_n X rfl dX7_digest_179 ?_
                                      refine v_aload_n X rfl dX7_digest_180 ?_
                                      refine v_callV (ci := 8) X mv_X7_198 (c_X7_emptyAfter l γ _ cn (by exact hv)) rfl rfl (rd_Model γ _) rfl ⟨Nat.le_of_ble_eq_true rfl, Nat.le_of_ble_eq_true rfl, Nat.le_of_ble_eq_true rfl, Nat.le_of_ble_eq_true rfl⟩ (Nat.le_of_ble_eq_true rfl) rfl dX7_digest_181 rfl (det_i ?_)
                                      rw [show s_aft (wha (wset W 12 A) D7) = wha (s_aft W) D7 from by unfold s_aft; show wha (wset (wset W 12 A) 12 (s_as A (W.1 10) 233)) _ = _; rw [wset_wset, hA]]
                                      refine v_callV (ci := 8) X mv_X7_177 (c_X7_mixes l γ _ _) rfl rfl (rd_Model γ _) rfl ⟨Nat.le_of_ble_eq_true rfl, Nat.le_of_ble_eq_true rfl, Nat.le_of_ble_eq_true rfl, Nat.le_of_ble_eq_true rfl⟩ (Nat.le_of_ble_eq_true rfl) rfl dX7_digest_184 rfl (det_v ?_)
                                      refine v_eqh (h' := rdw γ (wha (s_aft W) D8)) (by rw [← e8]; rfl) ?_
                                      refine v_iconst' X kc_0 dX7_digest_187 ?_
                                      refine v_istore_n X (Nat.le_of_ble_eq_true rfl) rfl dX7_digest_188 ?_
                                      have lp189 : ∀ (n189 : Nat) (k : Nat), k ≤ t ∧ t + 1 ≤ k + n189 → V p l e { frames := 6, cells := 0, slots := 0, locals := 131 } s m args below meth c γ Q0 (rdw γ (wha (s_aft W) (s_mixN (W.1 13) D8 k))) 0 0 189 [some (.ref (γ.1 + 86)), some (.int (nI k))] [] := by
                                        intro n189
                                        induction n189 with
                                        | zero =>
                                          intro k hbd189
                                          exact absurd hbd189 (by omega)
                                        | succ n189 ih189 =>
                                          intro k hbd189
                                          refine v_iload_n X rfl dX7_digest_189 ?_
                                          refine v_aload_n X rfl dX7_digest_190 ?_
                                          refine v_getf X (v := .int ((W.1 15) 1)) fd_X7_41 (rd_Model γ _) rfl dX7_digest_191 ?_
                                          rw [ht]
                                          refine v_icmp_ge_n (tgt := 213) X dX7_digest_194 (by decide) (by omega) (by omega) (fun c_7 => ?_) (fun c_7 => ?_)
                                          · have hk : t = k := by omega
                                            subst hk
                                            refine v_aload_n X rfl dX7_digest_213 ?_
                                            refine v_getf X fd_X7_170 (rd_Model γ _) rfl dX7_digest_214 ?_
                                            subst hQ0
                                            exact v_lret X rfl (Nat.le_of_ble_eq_true rfl) (Nat.le_of_ble_eq_true rfl) dX7_digest_217 ⟨rfl, rfl⟩
                                          · refine v_aload_n X rfl dX7_digest_197 ?_
                                            refine v_aload_n X rfl dX7_digest_198 ?_
                                            refine v_getf X fd_X7_19 (rd_Model γ _) rfl dX7_digest_199 ?_
                                            refine v_iload_n X rfl dX7_digest_202 ?_
                                            refine v_iald' X (v := ((W.1 13) (k))) (rd_MText γ _) (k) rfl (by omega) (by decide) (vw_at (by omega)) dX7_digest_203 ?_
                                            refine v_callV (ci := 8) X mv_X7_177 (c_X7_mixes l γ _ _) rfl rfl (rd_Model γ _) rfl ⟨Nat.le_of_ble_eq_true rfl, Nat.le_of_ble_eq_true rfl, Nat.le_of_ble_eq_true rfl, Nat.le_of_ble_eq_true rfl⟩ (Nat.le_of_ble_eq_true rfl) rfl dX7_digest_204 rfl (det_v ?_)
                                            refine v_iinc' X rfl rfl (nI_inc _) dX7_digest_207 ?_
                                            refine v_goto (tgt := 189) X dX7_digest_210 (by decide) ?_
                                            exact (ih189 (k + 1) ⟨by omega, by omega⟩)
                                      exact (lp189 (t + 1) 0 ⟨by omega, by omega⟩)
                                    · refine v_aload_n X rfl dX7_digest_162 ?_
                                      refine v_aload_n X rfl dX7_digest_163 ?_
                                      refine v_bipush' X kb_20 dX7_digest_164 ?_
                                      refine v_iload_n X rfl dX7_digest_166 ?_
                                      refine v_callV (ci := 8) X mv_X7_195 (c_X7_foretell l γ _ cn (by exact hv) _ _) rfl rfl (rd_Model γ _) rfl ⟨Nat.le_of_ble_eq_true rfl, Nat.le_of_ble_eq_true rfl, Nat.le_of_ble_eq_true rfl, Nat.le_of_ble_eq_true rfl⟩ (Nat.le_of_ble_eq_true rfl) rfl dX7_digest_167 rfl (det_i ?_)
                                      rw [if_pos (by decide), if_pos (nI_in0 (by omega) (by decide))]
                                      unfold s_aft
                                      refine v_callV (ci := 8) X mv_X7_177 (c_X7_mixes l γ _ _) rfl rfl (rd_Model γ _) rfl ⟨Nat.le_of_ble_eq_true rfl, Nat.le_of_ble_eq_true rfl, Nat.le_of_ble_eq_true rfl, Nat.le_of_ble_eq_true rfl⟩ (Nat.le_of_ble_eq_true rfl) rfl dX7_digest_170 rfl (det_v ?_)
                                      refine v_eqh (h' := rdw γ (wha (wset W 12 (s_as A (W.1 10) 233)) (s_mixN (fun k => s_fore (W.1 10) cn (nI 20) (nI k)) D6 (k + 1)))) (by show rdw γ (wha (wset (wset W 12 A) 12 (s_as ((wset W 12 A).1 12) (W.1 10) 233)) _) = _; rw [wset_wset, ws_same]; rfl) ?_
                                      refine v_iinc' X rfl rfl (nI_inc _) dX7_digest_173 ?_
                                      refine v_goto (tgt := 156) X dX7_digest_176 (by decide) ?_
                                      exact (ih156 (k + 1) (s_as A (W.1 10) 233) ⟨by omega, by omega⟩ (by rw [s_as_idem]; exact hA))
                                have hy := lp156 8 0 (W.1 12) ⟨by omega, by omega⟩ rfl
                                rw [wset_self] at hy
                                exact (hy)
                              · refine v_aload_n X rfl dX7_digest_134 ?_
                                refine v_aload_n X rfl dX7_digest_135 ?_
                                refine v_getf X fd_X7_7 (rd_Model γ _) rfl dX7_digest_136 ?_
                                refine v_sipush' X ks_168 dX7_digest_139 ?_
                                refine v_iload_n X rfl dX7_digest_142 ?_
                                refine v_iadd' X (nI_add _ _) dX7_digest_143 ?_
                                refine v_iald' X (v := ((W.1 10) ((168 + k)))) (rd_M γ _) ((168 + k)) rfl (by omega) (by decide) (vw_at (by omega)) dX7_digest_144 ?_
                                refine v_callV (ci := 8) X mv_X7_177 (c_X7_mixes l γ _ _) rfl rfl (rd_Model γ _) rfl ⟨Nat.le_of_ble_eq_true rfl, Nat.le_of_ble_eq_true rfl, Nat.le_of_ble_eq_true rfl, Nat.le_of_ble_eq_true rfl⟩ (Nat.le_of_ble_eq_true rfl) rfl dX7_digest_145 rfl (det_v ?_)
                                refine v_iinc' X rfl rfl (nI_inc _) dX7_digest_148 ?_
                                refine v_goto (tgt := 120) X dX7_digest_151 (by decide) ?_
                                exact (ih120 (k + 1) ⟨by omega, by omega⟩)
                          exact (lp120 (5 * q + 1) 0 ⟨by omega, by omega⟩)
                        · refine v_aload_n X rfl dX7_digest_87 ?_
                          refine v_aload_n X rfl dX7_digest_88 ?_
                          refine v_iload_n X rfl dX7_digest_89 ?_
                          refine v_bipush' X kb_6 dX7_digest_90 ?_
                          refine v_idiv' X (by omega) (by decide) (by decide) dX7_digest_92 ?_
                          refine v_iload_n X rfl dX7_digest_93 ?_
                          refine v_bipush' X kb_6 dX7_digest_94 ?_
                          refine v_irem' X (by omega) (by decide) (by decide) dX7_digest_96 ?_
                          refine v_callV (ci := 8) X mv_X7_192 (c_X7_profile l γ _ _ _) rfl rfl (rd_Model γ _) rfl ⟨Nat.le_of_ble_eq_true rfl, Nat.le_of_ble_eq_true rfl, Nat.le_of_ble_eq_true rfl, Nat.le_of_ble_eq_true rfl⟩ (Nat.le_of_ble_eq_true rfl) rfl dX7_digest_97 rfl (det_i ?_)
                          refine v_callV (ci := 8) X mv_X7_177 (c_X7_mixes l γ _ _) rfl rfl (rd_Model γ _) rfl ⟨Nat.le_of_ble_eq_true rfl, Nat.le_of_ble_eq_true rfl, Nat.le_of_ble_eq_true rfl, Nat.le_of_ble_eq_true rfl⟩ (Nat.le_of_ble_eq_true rfl) rfl dX7_digest_100 rfl (det_v ?_)
                          refine v_iinc' X rfl rfl (nI_inc _) dX7_digest_103 ?_
                          refine v_goto (tgt := 81) X dX7_digest_106 (by decide) ?_
                          exact (ih81 (k + 1) ⟨by omega, by omega⟩)
                    exact (lp81 (18 + 1) 0 ⟨by omega, by omega⟩)
                  · refine v_aload_n X rfl dX7_digest_63 ?_
                    refine v_aload_n X rfl dX7_digest_64 ?_
                    refine v_getf X fd_X7_7 (rd_Model γ _) rfl dX7_digest_65 ?_
                    refine v_iload_n X rfl dX7_digest_68 ?_
                    refine v_iald' X (v := ((W.1 10) (k))) (rd_M γ _) (k) rfl (by omega) (by decide) (vw_at (by omega)) dX7_digest_69 ?_
                    refine v_callV (ci := 8) X mv_X7_177 (c_X7_mixes l γ _ _) rfl rfl (rd_Model γ _) rfl ⟨Nat.le_of_ble_eq_true rfl, Nat.le_of_ble_eq_true rfl, Nat.le_of_ble_eq_true rfl, Nat.le_of_ble_eq_true rfl⟩ (Nat.le_of_ble_eq_true rfl) rfl dX7_digest_70 rfl (det_v ?_)
                    refine v_iinc' X rfl rfl (nI_inc _) dX7_digest_73 ?_
                    refine v_goto (tgt := 57) X dX7_digest_76 (by decide) ?_
                    exact (ih57 (k + 1) ⟨by omega, by omega⟩)
              exact (lp57 (120 + 1) 0 ⟨by omega, by omega⟩)
            · refine v_aload_n X rfl dX7_digest_44 ?_
              refine v_iload_n X rfl dX7_digest_45 ?_
              refine v_callV (ci := 8) X mv_X7_189 (c_X7_mixesWagon l γ _ cn (by exact hv) k _) rfl rfl (rd_Model γ _) rfl ⟨Nat.le_of_ble_eq_true rfl, Nat.le_of_ble_eq_true rfl, Nat.le_of_ble_eq_true rfl, Nat.le_of_ble_eq_true rfl⟩ (Nat.le_of_ble_eq_true rfl) rfl dX7_digest_46 rfl (det_v ?_)
              refine v_iinc' X rfl rfl (nI_inc _) dX7_digest_49 ?_
              refine v_goto (tgt := 32) X dX7_digest_52 (by decide) ?_
              exact (ih32 (k + 1) ⟨by omega, by omega⟩)
        exact (lp32 (cn + 1) 0 ⟨by omega, by omega⟩)
      · refine v_aload_n X rfl dX7_digest_15 ?_
        refine v_aload_n X rfl dX7_digest_16 ?_
        refine v_iload_n X rfl dX7_digest_17 ?_
        refine v_callV (ci := 8) X mv_X7_186 (c_X7_count l γ _ cn (by exact hv) u t (by exact hu) (by exact ht) _) rfl rfl (rd_Model γ _) rfl ⟨Nat.le_of_ble_eq_true rfl, Nat.le_of_ble_eq_true rfl, Nat.le_of_ble_eq_true rfl, Nat.le_of_ble_eq_true rfl⟩ (Nat.le_of_ble_eq_true rfl) rfl dX7_digest_18 rfl (det_i ?_)
        refine v_callV (ci := 8) X mv_X7_177 (c_X7_mixes l γ _ _) rfl rfl (rd_Model γ _) rfl ⟨Nat.le_of_ble_eq_true rfl, Nat.le_of_ble_eq_true rfl, Nat.le_of_ble_eq_true rfl, Nat.le_of_ble_eq_true rfl⟩ (Nat.le_of_ble_eq_true rfl) rfl dX7_digest_21 rfl (det_v ?_)
        refine v_iinc' X rfl rfl (nI_inc _) dX7_digest_24 ?_
        refine v_goto (tgt := 9) X dX7_digest_27 (by decide) ?_
        exact (ih9 (k + 1) ⟨by omega, by omega⟩)
  exact (lp9 (19 + 1) 0 ⟨by omega, by omega⟩)
