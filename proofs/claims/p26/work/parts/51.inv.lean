/-! the class's side of the run: its state, its history, its text -/
def BY7 (S : Nat → Int32) (n : Nat) : Prop := ∀ j, j < n → ∃ c, c < 128 ∧ S j = nI c
def VT (M : Nat → Int32) (cn q tm : Nat) : Prop := VS M cn q (3600 * tm) ∧ M 222 = nI tm ∧ tm ≤ 9999
def HS (γ : Gm) (W : Wd) (c : Nat) (P : Nat → Int32) (u : Nat) : Prop := ∃ nx : Nat, W.1 9 0 = nI nx ∧ W.1 9 1 = nI u ∧ u ≤ nx ∧ nx ≤ c ∧ u ≤ 6 ∧ (∀ j, j < u → ∃ cn q tm : Nat, VT (W.1 ((nx - u + j) % 6 + 2)) cn q tm ∧ LF γ W ((nx - u + j) % 6 + 2) 168 q (W.1 ((nx - u + j) % 6 + 2)) ∧ ∀ i, i < 233 → W.1 ((nx - u + j) % 6 + 2) i = P (233 * j + i)) ∧ ∀ k, k < 6 → LQ γ W (k + 2)
def TXI (W : Wd) (T : Nat → Int32) (t : Nat) : Prop := W.1 8 60 = nI t ∧ t ≤ 60 ∧ (∀ i, i < 60 → W.1 8 i = T i) ∧ BY7 (W.1 8) t
def CI (γ : Gm) (W : Wd) (c : Nat) (M P T : Nat → Int32) (u t cn q tm : Nat) : Prop := W.1 0 = M ∧ VT M cn q tm ∧ LF γ W 0 168 q M ∧ LQ γ W 1 ∧ LQ γ W 8 ∧ HS γ W c P u ∧ TXI W T t ∧ γ.1 + 89 ≤ W.2.2.2.2
/-- the reference's rows stay -/
def RB (W W' : Wd) : Prop := ∀ b, 10 ≤ b → W'.1 b = W.1 b
theorem RB.refl (W : Wd) : RB W W := fun _ _ => rfl
theorem RB.trans {W W' W'' : Wd} (h : RB W W') (h' : RB W' W'') : RB W W'' := fun b hb => (h' b hb).trans (h b hb)
theorem CI_w {γ : Gm} {W : Wd} {c : Nat} {M P T : Nat → Int32} {u t cn q tm : Nat} (h : CI γ W c M P T u t cn q tm) : rdw γ W = rdw γ (wset W 0 M) := by rw [← h.1, wset_self]
theorem HS.fr {γ : Gm} {W W' : Wd} {c c' : Nat} {P : Nat → Int32} {u : Nat} (h : HS γ W c P u) (hc : c ≤ c') (hE : Ext W W') (hb : ∀ b, 2 ≤ b → b ≤ 9 → b ≠ 8 → W'.1 b = W.1 b) (hl : ∀ j, 2 ≤ j → j < 8 → W'.2.1 j = W.2.1 j) : HS γ W' c' P u := by
  obtain ⟨nx, a1, a2, a3, a4, a5, a6, a7⟩ := h
  have h9 := hb 9 (by omega) (by omega) (by omega)
  refine ⟨nx, by rw [h9]; exact a1, by rw [h9]; exact a2, a3, by omega, a5, fun j hj => ?_, fun k hk => (a7 k hk).ext hE (hl _ (by omega) (by omega))⟩
  rw [hb ((nx - u + j) % 6 + 2) (by omega) (by omega) (by omega)]
  obtain ⟨cn, q, tm, b1, b2, b3⟩ := a6 j hj
  exact ⟨cn, q, tm, b1, b2.ext hE (hl _ (by omega) (by omega)), b3⟩
/-- what lies aside has changed: the state ahead, the text -/
theorem CI.gen {γ : Gm} {W W' : Wd} {c c' : Nat} {M P T T' : Nat → Int32} {u t t' cn q tm : Nat} (h : CI γ W c M P T u t cn q tm) (hc : c ≤ c') (hE : Ext W W') (hb : ∀ b, b < 10 → b ≠ 1 → b ≠ 8 → W'.1 b = W.1 b) (hl : ∀ j, j < 8 → j ≠ 1 → W'.2.1 j = W.2.1 j) (h1 : LQ γ W' 1) (h8 : LQ γ W' 8) (hx : TXI W' T' t') : CI γ W' c' M P T' u t' cn q tm := by
  obtain ⟨a1, a2, a3, a4, a5, a6, a7, a8⟩ := h
  exact ⟨(hb 0 (by omega) (by omega) (by omega)).trans a1, a2, a3.ext hE (hl 0 (by omega) (by omega)), h1, h8, a6.fr hc hE (fun b x y z => hb b (by omega) (by omega) z) (fun j x y => hl j y (by omega)), hx, Nat.le_trans a8 hE.1⟩
theorem TXI.fr {W W' : Wd} {T : Nat → Int32} {t : Nat} (h : TXI W T t) (hb : W'.1 8 = W.1 8) : TXI W' T t := by
  unfold TXI at *
  rw [hb]
  exact h
/-- the state itself has changed -/
theorem CI.upd0 {γ : Gm} {W W' : Wd} {c : Nat} {M M' P T : Nat → Int32} {u t cn q tm cn' q' tm' : Nat} (h : CI γ W c M P T u t cn q tm) (hE : Ext W W') (h0 : W'.1 0 = M') (hb : ∀ b, b < 10 → b ≠ 0 → W'.1 b = W.1 b) (hl : ∀ j, j < 9 → j ≠ 0 → W'.2.1 j = W.2.1 j) (hv : VT M' cn' q' tm') (hF : LF γ W' 0 168 q' M') : CI γ W' c M' P T u t cn' q' tm' := by
  obtain ⟨a1, a2, a3, a4, a5, a6, a7, a8⟩ := h
  exact ⟨h0, hv, hF, a4.ext hE (hl 1 (by omega) (by omega)), a5.ext hE (hl 8 (by omega) (by omega)), a6.fr (Nat.le_refl _) hE (fun b x y z => hb b (by omega) (by omega)) (fun j x y => hl j (by omega) (by omega)), a7.fr (hb 8 (by omega) (by omega)), Nat.le_trans a8 hE.1⟩
theorem CI.set0 {γ : Gm} {W : Wd} {c : Nat} {M M' P T : Nat → Int32} {u t cn q tm cn' tm' : Nat} (h : CI γ W c M P T u t cn q tm) (hv : VT M' cn' q tm') (ho : ∀ i, 168 ≤ i → i < 218 → M' i = M i) : CI γ (wset W 0 M') c M' P T u t cn' q tm' := by
  have h10 := h.2.1.1.2.1.2.1
  exact h.upd0 (Ext.ws _ _ _) (ws_same _ _ _) (fun b _ hb => ws_ne _ _ hb) (fun _ _ _ => rfl) hv ((h.2.2.1.ext (W' := wset W 0 M') (Ext.ws _ _ _) rfl).congr fun i a b => ho i a (by omega))
theorem VT.congr {M N : Nat → Int32} {cn q tm : Nat} (h : VT M cn q tm) (he : ∀ i, i < 233 → N i = M i) : VT N cn q tm := by
  obtain ⟨⟨⟨a1, a2, a3⟩, a4, a5, a6, a7⟩, b, c⟩ := h
  exact ⟨⟨⟨(he _ (by omega)).trans a1, a2, a3⟩, a4.congr (fun i _ _ => he i (by omega)) (he _ (by omega)), a5.congr (fun i _ _ => he i (by omega)), a6.congr (fun i _ => he i (by omega)), a7.congr (fun i _ _ => he i (by omega))⟩, (he _ (by omega)).trans b, c⟩
theorem keepP_lo {M P : Nat → Int32} {u j i : Nat} (h6 : u ≤ 6) (h : u ≠ 6) (hj : j < u) (hi : i < 233) : s_keepP M P u (233 * j + i) = P (233 * j + i) := by
  unfold s_keepP
  rw [if_neg h]
  simp only [s_cp]
  rw [if_neg (by omega)]
theorem keepP_at {M P : Nat → Int32} {u i : Nat} (h6 : u ≤ 6) (hi : i < 233) : s_keepP M P u (233 * (s_u u - 1) + i) = M i := by
  unfold s_keepP s_u
  by_cases h : u = 6
  · rw [if_pos h, if_pos h]
    simp only [s_cp]
    rw [if_pos (by omega), show 233 * (6 - 1) + i - 233 * 5 = i by omega]
  · rw [if_neg h, if_neg h]
    simp only [s_cp]
    rw [if_pos (by omega), show 233 * (u + 1 - 1) + i - 233 * u = i by omega]
theorem keepP_sh {M P : Nat → Int32} {j i : Nat} (hj : j < 5) (hi : i < 233) : s_keepP M P 6 (233 * j + i) = P (233 * (j + 1) + i) := by
  unfold s_keepP
  rw [if_pos rfl]
  simp only [s_cp]
  rw [if_neg (by omega)]
  simp only [s_sh]
  rw [if_pos (by omega), show 233 * j + i + 233 = 233 * (j + 1) + i by omega]
/-- a state put into the history -/
theorem HS.keep {γ : Gm} {W W' : Wd} {c nx : Nat} {M P : Nat → Int32} {u cn q tm : Nat} (hx : W.1 9 0 = nI nx) (hun : u ≤ nx) (hnc : nx ≤ c) (h6 : u ≤ 6) (hs : ∀ j, j < u → ∃ cn q tm : Nat, VT (W.1 ((nx - u + j) % 6 + 2)) cn q tm ∧ LF γ W ((nx - u + j) % 6 + 2) 168 q (W.1 ((nx - u + j) % 6 + 2)) ∧ ∀ i, i < 233 → W.1 ((nx - u + j) % 6 + 2) i = P (233 * j + i)) (hq : ∀ k, k < 6 → LQ γ W (k + 2)) (hM : W.1 0 = M) (hv : VT M cn q tm)
    (h1 : W'.1 = (wset (wset W (nx % 6 + 2) (W.1 0)) 9 (upd (upd (W.1 9) 0 (nI (nx + 1))) 1 (nI (s_u u)))).1) (h2 : ∀ c, c ≠ nx % 6 + 2 → W'.2.1 c = W.2.1 c) (hE : Ext W W') (hF : LF γ W' (nx % 6 + 2) 168 q (W.1 0)) : HS γ W' (c + 1) (s_keepP M P u) (s_u u) := by
  have e9 : W'.1 9 = upd (upd (W.1 9) 0 (nI (nx + 1))) 1 (nI (s_u u)) := by rw [h1]; exact ws_same _ _ _
  have ek : W'.1 (nx % 6 + 2) = M := by rw [h1]; exact (ws_ne _ _ (by omega)).trans ((ws_same _ _ _).trans hM)
  have eo : ∀ b, b ≠ 9 → b ≠ nx % 6 + 2 → W'.1 b = W.1 b := fun b x y => by rw [h1]; exact (ws_ne _ _ x).trans (ws_ne _ _ y)
  have hu : 1 ≤ s_u u ∧ s_u u ≤ 6 ∧ s_u u ≤ nx + 1 := by unfold s_u; split <;> omega
  refine ⟨nx + 1, by rw [e9, pk_un (by decide), pk_us], by rw [e9, pk_us], hu.2.2, by omega, hu.2.1, fun j hj => ?_, fun k hk => ?_⟩
  · by_cases e : j = s_u u - 1
    · subst e
      have ei : (nx + 1 - s_u u + (s_u u - 1)) % 6 + 2 = nx % 6 + 2 := by rw [show nx + 1 - s_u u + (s_u u - 1) = nx by omega]
      rw [ei, ek]
      rw [hM] at hF
      exact ⟨cn, q, tm, hv, hF, fun i hi => (keepP_at h6 hi).symm⟩
    · have hj2 : ∃ j', j' < u ∧ nx + 1 - s_u u + j = nx - u + j' ∧ ∀ i, i < 233 → s_keepP M P u (233 * j + i) = P (233 * j' + i) := by
        by_cases e6 : u = 6
        · have es : s_u u = 6 := by unfold s_u; rw [if_pos e6]
          refine ⟨j + 1, by omega, by omega, fun i hi => ?_⟩
          rw [e6]
          exact keepP_sh (by omega) hi
        · have es : s_u u = u + 1 := by unfold s_u; rw [if_neg e6]
          exact ⟨j, by omega, by omega, fun i hi => keepP_lo h6 e6 (by omega) hi⟩
      obtain ⟨j', b1, b2, b3⟩ := hj2
      obtain ⟨cn2, q2, tm2, d1, d2, d3⟩ := hs j' b1
      have hne : (nx - u + j') % 6 + 2 ≠ nx % 6 + 2 := by omega
      rw [b2, eo _ (by omega) hne]
      exact ⟨cn2, q2, tm2, d1, d2.ext hE (h2 _ hne), fun i hi => (d3 i hi).trans (b3 i hi).symm⟩
  · by_cases e : k + 2 = nx % 6 + 2
    · rw [e]; exact hF.lq
    · exact (hq k hk).ext hE (h2 _ e)
theorem k_keep (l : Launch) (γ : Gm) (W : Wd) (c : Nat) (M P T : Nat → Int32) (u t cn q tm : Nat) (hI : CI γ W c M P T u t cn q tm) (hc : c < 600) : Cr l γ yX0_keep cX0_keep 2 none 9 214 12 180 [.ref (γ.1 + 24), .ref (γ.1 + so 0)] (rdw γ W) (fun v h' => v = none ∧ ∃ W' : Wd, h' = rdw γ W' ∧ CI γ W' (c + 1) M (s_keepP M P u) T (s_u u) t cn q tm ∧ RB W W' ∧ Ext W W' ∧ ∀ j, j < 2 ∨ j = 8 → W'.2.1 j = W.2.1 j) := by
  obtain ⟨a1, a2, a3, a4, a5, ⟨nx, b1, b2, b3, b4, b5, b6, b7⟩, a7, a8⟩ := hI
  refine Cr_wk (c_X0_keep l γ W nx u b1 b2 b5 (by omega) q a2.1.2.1.2.1 (b7 (nx % 6) (by omega)) (by rw [a1]; exact a3)) (by decide) (by decide) (Nat.le_refl _) (Nat.le_refl _) ?_
  rintro v x ⟨rfl, W', rfl, c1, c2, c3, c4⟩
  have eo : ∀ b, b ≠ 9 → b ≠ nx % 6 + 2 → W'.1 b = W.1 b := fun b x y => by rw [c1]; exact (ws_ne _ _ x).trans (ws_ne _ _ y)
  refine ⟨rfl, W', rfl, ⟨(eo 0 (by omega) (by omega)).trans a1, a2, a3.ext c3 (c2 0 (by omega)), a4.ext c3 (c2 1 (by omega)), a5.ext c3 (c2 8 (by omega)), HS.keep b1 b3 b4 b5 b6 b7 a1 a2 c1 c2 c3 c4, a7.fr (eo 8 (by omega) (by omega)), Nat.le_trans a8 c3.1⟩, fun b hb => eo b (by omega) (by omega), c3, fun j hj => c2 j (by omega)⟩
/-- the latest state taken back -/
theorem k_restore (l : Launch) (γ : Gm) (W : Wd) (c : Nat) (M P T : Nat → Int32) (u t cn q tm : Nat) (hI : CI γ W c M P T u t cn q tm) (hc : c < 600) (hu : 1 ≤ u) : Cr l γ yX0_restore cX0_restore 2 none 9 214 12 180 [.ref (γ.1 + 24), .ref (γ.1 + so 0)] (rdw γ W) (fun v h' => v = none ∧ ∃ (W' : Wd) (cn' q' tm' : Nat), h' = rdw γ W' ∧ CI γ W' c (s_ld M P (233 * (u - 1)) 233) P T (u - 1) t cn' q' tm' ∧ RB W W') := by
  obtain ⟨a1, a2, a3, a4, a5, ⟨nx, b1, b2, b3, b4, b5, b6, b7⟩, a7, a8⟩ := hI
  obtain ⟨cn', q', tm', d1, d2, d3⟩ := b6 (u - 1) (by omega)
  have ei : (nx - u + (u - 1)) % 6 + 2 = (nx - 1) % 6 + 2 := by rw [show nx - u + (u - 1) = nx - 1 by omega]
  rw [ei] at d1 d2 d3
  refine Cr_wk (c_X0_restore l γ W nx u b1 b2 b5 (by omega) q' d1.1.2.1.2.1 (by omega) hu a3.lq d2) (by decide) (by decide) (Nat.le_refl _) (Nat.le_refl _) ?_
  rintro v x ⟨rfl, W', rfl, c1, c2, c3, c4⟩
  have eo : ∀ b, b ≠ 9 → b ≠ 0 → W'.1 b = W.1 b := fun b x y => by rw [c1]; exact (ws_ne _ _ y).trans (ws_ne _ _ x)
  have e9 : W'.1 9 = upd (upd (W.1 9) 0 (nI (nx - 1))) 1 (nI (u - 1)) := by rw [c1]; exact (ws_ne _ _ (by decide)).trans (ws_same _ _ _)
  have e0 : W'.1 0 = W.1 ((nx - 1) % 6 + 2) := by rw [c1]; exact ws_same _ _ _
  have hg : ∀ i, i < 233 → s_ld M P (233 * (u - 1)) 233 i = W.1 ((nx - 1) % 6 + 2) i := fun i hi => by
    rw [d3 i hi]; simp only [s_ld]; rw [if_pos hi]
  have hq10 := d1.1.2.1.2.1
  refine ⟨rfl, wset W' 0 (s_ld M P (233 * (u - 1)) 233), cn', q', tm', ?_, ⟨ws_same _ _ _, d1.congr hg, ?_, ?_, ?_, ⟨nx - 1, ?_, ?_, by omega, by omega, by omega, fun j hj => ?_, fun k hk => ?_⟩, ?_, Nat.le_trans a8 c3.1⟩, fun b hb => (ws_ne _ _ (by omega)).trans (eo b (by omega) (by omega))⟩
  · have h9 := rdw_ext γ W' (g := W'.1 0) (g' := s_ld M P (233 * (u - 1)) 233) (k := 0) (by decide) (fun i hi _ _ => by rw [e0]; exact (hg i hi).symm)
    rw [wset_self] at h9
    exact h9
  · exact (c4.ext (W' := wset W' 0 (s_ld M P (233 * (u - 1)) 233)) (Ext.ws _ _ _) rfl).congr fun i x y => hg i (by omega)
  · exact (a4.ext c3 (c2 1 (by omega))).ext (Ext.ws _ _ _) rfl
  · exact (a5.ext c3 (c2 8 (by omega))).ext (Ext.ws _ _ _) rfl
  · rw [ws_ne _ _ (by decide), e9, pk_un (by decide), pk_us]
  · rw [ws_ne _ _ (by decide), e9, pk_us]
  · obtain ⟨cn2, q2, tm2, f1, f2, f3⟩ := b6 j (by omega)
    rw [show nx - 1 - (u - 1) + j = nx - u + j by omega, ws_ne _ _ (by omega), eo _ (by omega) (by omega)]
    exact ⟨cn2, q2, tm2, f1, (f2.ext c3 (c2 _ (by omega))).ext (Ext.ws _ _ _) rfl, f3⟩
  · exact ((b7 k hk).ext c3 (c2 _ (by omega))).ext (Ext.ws _ _ _) rfl
  · exact a7.fr ((ws_ne _ _ (by decide)).trans (eo 8 (by omega) (by omega)))
