/-! the whole text read -/
theorem ct_sw (S : Nat → Int32) (a : Nat) (x : Int32) : upd (upd S 62 (nI a)) 61 x = ct S (a, x) := by
  funext j
  unfold ct
  by_cases h : j = 61
  · subst h; rw [pk_us, pk_un (by decide), pk_us]
  · rw [pk_un h]
    by_cases h2 : j = 62
    · subst h2; rw [pk_us, pk_us]
    · rw [pk_un h2, pk_un h2, pk_un h]
def RI (γ : Gm) (W W2 : Wd) (S : Nat → Int32) (n : Nat) (R0 : Nat → Int32) (i : Nat) (p : Rd) : Prop := (∀ c, c ≠ 8 → W2.1 c = W.1 c) ∧ (∀ c, c ≠ 8 → W2.2.1 c = W.2.1 c) ∧ Ext W W2 ∧ ((p.2 = (-1001) ∧ 5 * i ≤ p.1 ∧ p.1 ≤ 68 ∧ ∃ R, r_all S n (61 - i) (p, i, R) = r_reads S n R0 ∧ LF γ W2 8 0 i R ∧ ∀ t, t < i → OVo (oM R 0 t)) ∨ (¬ p.2 = (-1001) ∧ p.2 = (r_reads S n R0).1.2 ∧ LQ γ W2 8))
/-- how the reading ends -/
def RE (γ : Gm) (W2 : Wd) (S : Nat → Int32) (n : Nat) (R0 : Nat → Int32) (p : Rd) : Prop := p.2 = (r_reads S n R0).1.2 ∧ ((p.2 = (-1001) ∧ (r_reads S n R0).2.1 ≤ 12 ∧ LF γ W2 8 0 (r_reads S n R0).2.1 (r_reads S n R0).2.2 ∧ ∀ t, t < (r_reads S n R0).2.1 → OVo (oM (r_reads S n R0).2.2 0 t)) ∨ (¬ p.2 = (-1001) ∧ LQ γ W2 8))
theorem RI_A {γ : Gm} {W W2 : Wd} {S : Nat → Int32} {n i : Nat} {R0 : Nat → Int32} {p : Rd} (h : RI γ W W2 S n R0 i p) (hp : p.2 = (-1001)) : 5 * i ≤ p.1 ∧ p.1 ≤ 68 ∧ ∃ R, r_all S n (61 - i) (p, i, R) = r_reads S n R0 ∧ LF γ W2 8 0 i R ∧ ∀ t, t < i → OVo (oM R 0 t) := by
  rcases h.2.2.2 with z | z
  · exact z.2
  · exact absurd hp z.1
theorem RI_endB {γ : Gm} {W W2 : Wd} {S : Nat → Int32} {n i : Nat} {R0 : Nat → Int32} {p : Rd} (h : RI γ W W2 S n R0 i p) (hp : ¬ p.2 = (-1001)) : RE γ W2 S n R0 p := by
  rcases h.2.2.2 with z | z
  · exact absurd z.1 hp
  · exact ⟨z.2.1, Or.inr ⟨hp, z.2.2⟩⟩
theorem RI_endA {γ : Gm} {W W2 : Wd} {S : Nat → Int32} {n i : Nat} {R0 : Nat → Int32} {p : Rd} (h : RI γ W W2 S n R0 i p) (hp : p.2 = (-1001)) (hn : n ≤ p.1) (h60 : n ≤ 60) (hi : i ≤ 12) : RE γ W2 S n R0 p := by
  obtain ⟨h1, h2, R, h3, h4, h5⟩ := RI_A h hp
  have e : r_reads S n R0 = (p, i, R) := by
    rw [← h3, show 61 - i = (60 - i) + 1 by omega]
    exact if_neg fun z => absurd z.2 (by show ¬ p.1 < n; omega)
  unfold RE
  rw [e]
  exact ⟨rfl, Or.inl ⟨hp, hi, h4, h5⟩⟩
theorem RI_step {γ : Gm} {W W2 W3 : Wd} {S : Nat → Int32} {n i : Nat} {R0 R : Nat → Int32} {p : Rd} {row : Nat → Option Nat} (h1 : ∀ c, c ≠ 8 → W2.1 c = W.1 c) (h2 : ∀ c, c ≠ 8 → W2.2.1 c = W.2.1 c) (h3 : Ext W W2) (h60 : n ≤ 60) (hp : p.2 = (-1001)) (ha : 5 * i ≤ p.1) (hlt : p.1 < n) (he : r_all S n (61 - i) (p, i, R) = r_reads S n R0) (hB : LB γ W2 8 i row) (hL : LR γ W2 0 i row R) (ho : ∀ t, t < i → OVo (oM R 0 t)) (hR : RO γ W2 W3 S n i p row) : RI γ W W3 S n R0 (i + 1) (d_7 S n p) := by
  obtain ⟨b1, b2, b3, b4⟩ := hR
  refine ⟨fun c hc => by rw [b1]; exact (ws_ne _ _ hc).trans (h1 c hc), fun c hc => (b2 c hc).trans (h2 c hc), h3.trans b3, ?_⟩
  have hq := d7_eq (T := S) (n := n) (p := p) (by omega) (by omega)
  have ee : r_all S n (61 - (i + 1)) (r_7 S n p, i + 1, r_row S n p R (5 * i)) = r_reads S n R0 := by
    rw [← he, show 61 - i = (61 - (i + 1)) + 1 by omega]
    exact (if_pos ⟨hp, hlt⟩).symm
  rcases b4 with ⟨f1, row', b, f2, f3, f4, f5⟩ | ⟨f1, f2⟩
  · have g := hq.2 (hq.1.symm.trans f1)
    obtain ⟨g1, ⟨v0, v1, v2, v3, v4⟩, g3⟩ := g
    obtain ⟨w0, w1, w2, w3, w4⟩ := r_row_at S n p R (5 * i)
    have hv : ∀ z, z < 5 → d_o S n p z = r_row S n p R (5 * i) (0 + 5 * i + z) := by
      intro z hz
      rw [Nat.zero_add]
      rcases (by omega : z = 0 ∨ z = 1 ∨ z = 2 ∨ z = 3 ∨ z = 4) with rfl | rfl | rfl | rfl | rfl
      · exact v0.trans w0.symm
      · exact v1.trans w1.symm
      · exact v2.trans w2.symm
      · exact v3.trans w3.symm
      · exact v4.trans w4.symm
    refine Or.inl ⟨f1, ?_, ?_, r_row S n p R (5 * i), ?_, ⟨row', f2, fun t ht => ?_⟩, fun t ht => ?_⟩
    · have := (r_7_ok (T := S) (n := n) (p := p) (by omega) (by omega) (hq.1.symm.trans f1)).2
      rw [g1]; omega
    · have := (df_b (T := S) (n := n) (p := p) (B := 60) (by omega) h60).2; omega
    · rw [g1]; exact ee
    · by_cases e : t = i
      · subst e
        exact ⟨b, f4, f5.congr hv⟩
      · obtain ⟨a, c1, c2⟩ := hL t (by omega)
        exact ⟨a, (f3 t (by omega)).trans c1, (c2.ext b3).congr fun z hz => (r_row_off S n p R (by omega)).symm⟩
    · by_cases e : t = i
      · subst e
        exact g3.congr fun z hz => (hv z hz).symm
      · exact (ho t (by omega)).congr fun z hz => r_row_off S n p R (by omega)
  · refine Or.inr ⟨f1, ?_, LQ.ext ⟨i, row, hB, hL.lo⟩ b3 f2⟩
    rw [← ee, show 61 - (i + 1) = 61 - (i + 1) from rfl, hq.1]
    cases 61 - (i + 1) with
    | zero => rfl
    | succ f =>
      show (r_7 S n p).2 = (if (r_7 S n p).2 = (-1001) ∧ (r_7 S n p).1 < n then _ else ((r_7 S n p, i + 1, r_row S n p R (5 * i)) : RX)).1.2
      rw [if_neg (fun z => f1 (hq.1.trans z.1))]
theorem rd_w {W W2 : Wd} {G : Nat → Int32} (h : ∀ c, c ≠ 8 → W2.1 c = W.1 c) : (wset W2 8 G).1 = (wset W 8 G).1 := by
  funext c
  by_cases hc : c = 8
  · subst hc; rw [ws_same, ws_same]
  · rw [ws_ne _ _ hc, ws_ne _ _ hc, h c hc]
set_option maxHeartbeats 4000000 in
set_option maxRecDepth 100000 in
theorem c_X3_read (l : Launch) (γ : Gm) (W : Wd) (n : Nat) (hn : W.1 8 60 = nI n) (h60 : n ≤ 60) (hb : BY7 (W.1 8) n) (hQ : LQ γ W 8) (hN : γ.1 + 92 ≤ W.2.2.2.2) (R0 : Nat → Int32) : Cr l γ yX3_read cX3_read 2 none 9 207 26 260 [.ref (γ.1 + 1)] (rdw γ W) (fun v h' => v = none ∧ ∃ (W' : Wd) (p : Rd), h' = rdw γ W' ∧ W'.1 = (wset W 8 (ct (W.1 8) p)).1 ∧ (∀ c, c ≠ 8 → W'.2.1 c = W.2.1 c) ∧ Ext W W' ∧ RE γ W' (W.1 8) n R0 p) := by
  refine Cr_of [some (.ref (γ.1 + 1)), none] (by decide +kernel) (Nat.le_of_ble_eq_true rfl) rfl ?_
  intro p e s m args below meth c X
  refine v_q0 (fun Q0 hQ0 => ?_)
  obtain ⟨q0, row0, hB0, hO0⟩ := hQ
  refine v_aload_n X rfl dX3_read_0 ?_
  refine v_getf X fd_X3_22 (rd_Text γ _) rfl dX3_read_1 ?_
  refine v_callV (ci := 0) X mv_X3_32 (k_clear l γ W 8 q0 row0 (by decide) _ rfl hB0 hN) rfl rfl (rd_TList γ _) rfl ⟨Nat.le_of_ble_eq_true rfl, Nat.le_of_ble_eq_true rfl, Nat.le_of_ble_eq_true rfl, Nat.le_of_ble_eq_true rfl⟩ (Nat.le_of_ble_eq_true rfl) rfl dX3_read_4 rfl (nd_v (fun h9 hp9 => ?_))
  obtain ⟨v2, row2, rfl, hB2⟩ := hp9
  refine v_aload_n X rfl dX3_read_7 ?_
  refine v_iconst' X kc_0 dX3_read_8 ?_
  refine v_putf X fp_X3_29 (rd_Text γ _) rfl rfl (Nat.le_of_ble_eq_true rfl) dX3_read_9 ?_
  refine v_eqh (uq_tat γ _ _) ?_
  refine v_aload_n X rfl dX3_read_12 ?_
  refine v_sipush' X ks_m1001 dX3_read_13 ?_
  refine v_putf X fp_X3_26 (rd_Text γ _) rfl rfl (Nat.le_of_ble_eq_true rfl) dX3_read_16 ?_
  refine v_eqh (uq_tfault γ _ _) ?_
  rw [ws_same, wset_wset, ct_sw]
  rw [show (wl W 8 v2).1 8 = W.1 8 from rfl]
  refine v_aload_n X rfl dX3_read_19 ?_
  refine v_callV (ci := 4) X mv_X3_35 (c_X3_skipBlanks l γ (wl W 8 v2) (W.1 8) (0, -1001) n hn h60 (by decide)) rfl rfl (rd_Text γ _) rfl ⟨Nat.le_of_ble_eq_true rfl, Nat.le_of_ble_eq_true rfl, Nat.le_of_ble_eq_true rfl, Nat.le_of_ble_eq_true rfl⟩ (Nat.le_of_ble_eq_true rfl) rfl dX3_read_20 rfl (det_v ?_)
  refine v_iconst' X kc_0 dX3_read_23 ?_
  refine v_istore_n X (Nat.le_of_ble_eq_true rfl) rfl dX3_read_24 ?_
  have lp25 : ∀ (n9 : Nat) (i : Nat) (pp : Rd) (W2 : Wd), i ≤ 12 ∧ 14 ≤ i + n9 → RI γ W W2 (W.1 8) n R0 i pp → V p l e { frames := 9, cells := 26, slots := 260, locals := 207 } s m args below meth c γ Q0 (rdw γ (wset W2 8 (ct (W.1 8) pp))) (2 * i) (20 * i) 25 [some (.ref (γ.1 + 1)), some (.int (nI i))] [] := by
    intro n9
    induction n9 with
    | zero =>
      intro i pp W2 hbd
      exact absurd hbd (by omega)
    | succ n9 ih =>
      intro i pp W2 hbd hI
      refine v_iload_n X rfl dX3_read_25 ?_
      refine v_bipush' X kb_60 dX3_read_26 ?_
      refine v_icmp_ge_n (tgt := 62) X dX3_read_28 (by decide) (by omega) (by omega) (fun q1 => ?_) (fun q1 => ?_)
      · exact absurd q1 (by omega)
      · refine v_aload_n X rfl dX3_read_31 ?_
        refine v_getf X (v := (.int ((wset W2 8 (ct (W.1 8) pp)).1 8 61))) fd_X3_26 (rd_Text γ _) rfl dX3_read_32 ?_
        rw [ws_same, ct_61]
        refine v_sipush' X ks_m1001 dX3_read_35 ?_
        refine v_icmp_ne (tgt := 62) X dX3_read_38 (by decide) (fun q2 => ?_) (fun q2 => ?_)
        · have hend := RI_endB hI q2
          subst hQ0
          exact v_vret X rfl (by show _ ≤ 26; omega) (by show _ ≤ 260; omega) dX3_read_62 ⟨rfl, wset W2 8 (ct (W.1 8) pp), pp, rfl, rd_w hI.1, hI.2.1, hI.2.2.1, hend⟩
        · obtain ⟨g1, g2, R, g3, ⟨row, g4, g5⟩, g6⟩ := RI_A hI q2
          refine v_aload_n X rfl dX3_read_41 ?_
          refine v_getf X (v := (.int ((wset W2 8 (ct (W.1 8) pp)).1 8 62))) fd_X3_29 (rd_Text γ _) rfl dX3_read_42 ?_
          rw [ws_same, ct_62]
          refine v_aload_n X rfl dX3_read_45 ?_
          refine v_getf X (v := (.int ((wset W2 8 (ct (W.1 8) pp)).1 8 60))) fd_X3_15 (rd_Text γ _) rfl dX3_read_46 ?_
          rw [ws_same, ct_o _ _ (by decide) (by decide), hn]
          refine v_icmp_ge_n (tgt := 62) X dX3_read_49 (by decide) (by omega) (by omega) (fun q3 => ?_) (fun q3 => ?_)
          · have hend : RE γ W2 (W.1 8) n R0 pp := RI_endA hI q2 q3 h60 (by omega)
            subst hQ0
            exact v_vret X rfl (by show _ ≤ 26; omega) (by show _ ≤ 260; omega) dX3_read_62 ⟨rfl, wset W2 8 (ct (W.1 8) pp), pp, rfl, rd_w hI.1, hI.2.1, hI.2.2.1, hend⟩
          · refine v_aload_n X rfl dX3_read_52 ?_
            have hi12 : i ≤ 11 := by omega
            refine v_callV (ci := 4) X mv_X3_38 (c_X3_readOrder l γ W2 (W.1 8) pp n hn h60 (by omega) hb i row g4 g5.lo (by omega) (Nat.le_trans hN hI.2.2.1.1)) rfl rfl (rd_Text γ _) rfl ⟨(Nat.le_of_ble_eq_true rfl), (Nat.le_of_ble_eq_true rfl), (by show 2 * i + 2 ≤ 26; omega), (by show 20 * i + 20 ≤ 260; omega)⟩ (Nat.le_of_ble_eq_true rfl) rfl dX3_read_53 rfl (nd_v (fun h9 hp9 => ?_))
            obtain ⟨W3, rfl, hR⟩ := hp9
            have hI2 := RI_step hI.1 hI.2.1 hI.2.2.1 h60 q2 g1 q3 g3 g4 g5 g6 hR
            refine v_eqh (h' := rdw γ (wset W3 8 (ct (W.1 8) (d_7 (W.1 8) n pp)))) (by rw [show ct (W.1 8) (d_7 (W.1 8) n pp) = W3.1 8 from by rw [hR.1]; exact (ws_same _ _ _).symm, wset_self]) ?_
            refine v_iinc' X rfl rfl (nI_inc _) dX3_read_56 ?_
            refine v_goto (tgt := 25) X dX3_read_59 (by decide) ?_
            exact (ih (i + 1) _ _ ⟨by omega, by omega⟩ hI2)
  have hI0 : RI γ W (wl W 8 v2) (W.1 8) n R0 0 (t_bl (W.1 8) n 0, (-1001)) := ⟨fun _ _ => rfl, fun c hc => wl_ne _ _ hc, Ext.wl _ _ _, Or.inl ⟨rfl, Nat.zero_le _, t_bl_max (W.1 8) n 0 68 (by omega) (by omega), R0, rfl, ⟨row2, hB2, fun t z => absurd z (by omega)⟩, fun t z => absurd z (by omega)⟩⟩
  exact (lp25 14 0 _ _ ⟨by omega, by omega⟩ hI0)
