set_option maxHeartbeats 4000000 in
theorem k_size (l : Launch) (γ : Gm) (W : Wd) (j q : Nat) (row : Nat → Option Nat) (hj : j < 9) (p : Nat) (hp : p = γ.1 + lA j) (hB : LB γ W j q row) : Cr l γ yJx4a65c_size_8abf5 cJx4a65c_size_8abf5 1 (some .int) 0 0 0 0 [.ref p] (rdw γ W) (Det (some (.int (nI q))) (rdw γ W)) := by
  subst hp
  have h15 := hB.q15
  obtain ⟨mc, d, cp, hv, hf⟩ := hB
  exact c_Jx4a65c_size_8abf5 l γ W j mc q d cp row hj hv (by rcases hf with hf | hf <;> omega) (by rcases hf with hf | hf <;> omega)
set_option maxHeartbeats 4000000 in
theorem k_get (l : Launch) (γ : Gm) (W : Wd) (j q : Nat) (row : Nat → Option Nat) (hj : j < 9) (p : Nat) (hp : p = γ.1 + lA j) (hB : LB γ W j q row) (i a : Nat) (hi : i < q) (ha : row i = some a) : Cr l γ yJx4a65c_get_915e3 cJx4a65c_get_915e3 2 (some (.object "java/lang/Object")) 2 43 0 0 [.ref p, .int (nI i)] (rdw γ W) (Det (some (.ref a)) (rdw γ W)) := by
  subst hp
  obtain ⟨mc, d, cp, hv, hf⟩ := hB
  rcases hf with hf | ⟨f1, f2, f3, f4, f5⟩
  · omega
  · exact c_Jx4a65c_get_915e3 l γ W j mc q d cp row hj hv (by omega) f1 f3 f5 i a hi ha
set_option maxHeartbeats 4000000 in
theorem k_set (l : Launch) (γ : Gm) (W : Wd) (j q : Nat) (row : Nat → Option Nat) (hj : j < 9) (p : Nat) (hp : p = γ.1 + lA j) (hB : LB γ W j q row) (i a b : Nat) (hi : i < q) (ha : row i = some a) (o : Nat → Int32) (hb : OrdAt γ W b o) : Cr l γ yJx4a65c_set_bcc79 cJx4a65c_set_bcc79 4 (some (.object "java/lang/Object")) 2 43 0 0 [.ref p, .int (nI i), .ref b] (rdw γ W) (fun v h' => v = some (.ref a) ∧ ∃ v', h' = rdw γ (wl W j v') ∧ LB γ (wl W j v') j q (va_up row i (some b))) := by
  subst hp
  obtain ⟨mc, d, cp, hv, hf⟩ := hB
  rcases hf with hf | ⟨f1, f2, f3, f4, f5⟩
  · omega
  · obtain ⟨b1, b2, o', b3, _⟩ := hb
    refine Cr_wk (c_Jx4a65c_set_bcc79 l γ W j mc q d cp row hj hv (by omega) f1 f3 f5 i a hi ha b o' b1 b3) (Nat.le_refl _) (Nat.le_refl _) (Nat.le_refl _) (Nat.le_refl _) ?_
    rintro v x ⟨rfl, rfl⟩
    exact ⟨rfl, _, rfl, mc, d, cp, wl_at _ _ _, Or.inr ⟨f1, f2, f3, f4, f5⟩⟩
set_option maxHeartbeats 4000000 in
theorem k_rem (l : Launch) (γ : Gm) (W : Wd) (j q : Nat) (row : Nat → Option Nat) (hj : j < 9) (p : Nat) (hp : p = γ.1 + lA j) (hB : LB γ W j q row) (i a : Nat) (hi : i < q) (ha : row i = some a) (hlo : LO γ W row q) : Cr l γ yJx4a65c_remove_915e3 cJx4a65c_remove_915e3 4 (some (.object "java/lang/Object")) 2 63 0 0 [.ref p, .int (nI i)] (rdw γ W) (fun v h' => v = some (.ref a) ∧ ∃ v', h' = rdw γ (wl W j v') ∧ LB γ (wl W j v') j (q - 1) (c_rem row q i)) := by
  subst hp
  obtain ⟨mc, d, cp, hv, hf⟩ := hB
  rcases hf with hf | ⟨f1, f2, f3, f4, f5⟩
  · omega
  · refine Cr_wk (c_Jx4a65c_remove_915e3 l γ W j mc q d cp row hj hv (by omega) f1 f3 f5 i hi hlo a ha) (Nat.le_refl _) (Nat.le_refl _) (Nat.le_refl _) (Nat.le_refl _) ?_
    rintro v x ⟨rfl, rfl⟩
    exact ⟨rfl, _, rfl, _, d, cp, wl_at _ _ _, Or.inr ⟨by omega, f2, f3, f4, f5⟩⟩
set_option maxHeartbeats 4000000 in
theorem k_clear (l : Launch) (γ : Gm) (W : Wd) (j q : Nat) (row : Nat → Option Nat) (hj : j < 9) (p : Nat) (hp : p = γ.1 + lA j) (hB : LB γ W j q row) (hn : γ.1 + 92 ≤ W.2.2.2.2) : Cr l γ yJx4a65c_clear_da8c8 cJx4a65c_clear_da8c8 4 none 0 0 0 0 [.ref p] (rdw γ W) (fun v h' => v = none ∧ ∃ v' row', h' = rdw γ (wl W j v') ∧ LB γ (wl W j v') j 0 row') := by
  subst hp
  obtain ⟨mc, d, cp, hv, hf⟩ := hB
  rcases hf with ⟨rfl, rfl, rfl⟩ | ⟨f1, f2, f3, f4, f5⟩
  · refine Cr_wk (c_Jx4a65c_clear_da8c8_g l γ W j mc row hj hv hn) (Nat.le_refl _) (Nat.le_refl _) (Nat.le_refl _) (Nat.le_refl _) ?_
    rintro v x ⟨rfl, rfl⟩
    exact ⟨rfl, _, _, rfl, _, _, 0, wl_at _ _ _, Or.inl ⟨rfl, rfl, rfl⟩⟩
  · refine Cr_wk (c_Jx4a65c_clear_da8c8_a l γ W j mc q d cp row hj hv (by omega) f1 f3 f5) (Nat.le_refl _) (Nat.le_refl _) (Nat.le_refl _) (Nat.le_refl _) ?_
    rintro v x ⟨rfl, rfl⟩
    exact ⟨rfl, _, _, rfl, _, d, cp, wl_at _ _ _, Or.inr ⟨Nat.zero_le _, f2, f3, f4, f5⟩⟩
/-- a list after an order was added -/
def Added (γ : Gm) (W W' : Wd) (j q b : Nat) (row : Nat → Option Nat) : Prop := W'.1 = W.1 ∧ (∀ c, c ≠ j → W'.2.1 c = W.2.1 c) ∧ Ext W W' ∧ ∃ row', LB γ W' j (q + 1) row' ∧ (∀ t, t < q → row' t = row t) ∧ row' q = some b
theorem c_ten_at {row : Nat → Option Nat} {t : Nat} (h : t < 10) : c_ten row t = row t := by
  show (if 0 ≤ t ∧ t < 0 + 10 then row (0 + (t - 0)) else none) = row t
  rw [if_pos ⟨Nat.zero_le _, by omega⟩, Nat.sub_zero, Nat.zero_add]
theorem wg_x (W : Wd) (j c : Nat) (row : Nat → Option Nat) : Ext W (wgrow W j c row) := ⟨Nat.le_succ _, fun a ha => if_neg (Nat.ne_of_lt ha), rfl⟩
theorem k_add (l : Launch) (γ : Gm) (W : Wd) (j q : Nat) (row : Nat → Option Nat) (hj : j < 9) (p : Nat) (hp : p = γ.1 + lA j) (hB : LB γ W j q row) (hn : γ.1 + 92 ≤ W.2.2.2.2) (hlo : LO γ W row q) (b : Nat) (o : Nat → Int32) (hb : OrdAt γ W b o) (hq : q < 15) : Cr l γ yJx4a65c_add_9ea2d cJx4a65c_add_9ea2d 2 (some .boolean) 6 150 1 15 [.ref p, .ref b] (rdw γ W) (fun v h' => v = some (.int (nI 1)) ∧ ∃ W', h' = rdw γ W' ∧ Added γ W W' j q b row) := by
  subst hp
  obtain ⟨mc, d, cp, hv, hf⟩ := hB
  obtain ⟨b1, b2, o', b3, _⟩ := hb
  rcases hf with ⟨rfl, rfl, rfl⟩ | ⟨f1, f2, f3, f4, f5⟩
  · refine Cr_wk (c_Jx4a65c_add_9ea2d_g l γ W j mc row hj hv hn b o' b1 b3 b2) (Nat.le_refl _) (Nat.le_refl _) (Nat.le_refl _) (by decide) ?_
    rintro v x ⟨rfl, rfl⟩
    refine ⟨rfl, _, rfl, rfl, fun c hc => ?_, ?_, _, ⟨_, _, 10, wl_at _ _ _, Or.inr ⟨by omega, Or.inl rfl, hn, Nat.lt_succ_self _, if_pos rfl⟩⟩, fun t ht => absurd ht (by omega), va_up_self _ _ _⟩
    · show (if c = j then _ else _) = _
      rw [if_neg hc]
      show (if c = j then _ else _) = _
      rw [if_neg hc]
      show (if c = j then _ else _) = _
      rw [if_neg hc]
    · exact ((Ext.wl W j _).trans (wg_x _ j 10 _)).trans (Ext.wl _ j _)
  · by_cases hqc : q < cp
    · refine Cr_wk (c_Jx4a65c_add_9ea2d_a l γ W j mc q d cp row hj hv (by omega) f1 f3 f5 hqc b o' b1 b3) (Nat.le_refl _) (Nat.le_refl _) (by decide) (by decide) ?_
      rintro v x ⟨rfl, rfl⟩
      exact ⟨rfl, _, rfl, rfl, fun c hc => wl_ne _ _ hc, Ext.wl _ _ _, _, ⟨_, d, cp, wl_at _ _ _, Or.inr ⟨hqc, f2, f3, f4, f5⟩⟩, fun t ht => va_up_ne _ _ (by omega), va_up_self _ _ _⟩
    · have hq10 : q = 10 ∧ cp = 10 := by omega
      obtain ⟨rfl, rfl⟩ := hq10
      refine Cr_wk (c_Jx4a65c_add_9ea2d_b l γ W j mc d row hj hv f3 f5 hlo hn f4 b o' b1 b3 b2) (Nat.le_refl _) (Nat.le_refl _) (Nat.le_refl _) (Nat.le_refl _) ?_
      rintro v x ⟨rfl, rfl⟩
      refine ⟨rfl, _, rfl, rfl, fun c hc => ?_, ?_, _, ⟨_, _, 15, wl_at _ _ _, Or.inr ⟨by omega, Or.inr rfl, hn, Nat.lt_succ_self _, if_pos rfl⟩⟩, fun t ht => (va_up_ne _ _ (by omega)).trans (c_ten_at ht), va_up_self _ _ _⟩
      · show (if c = j then _ else _) = _
        rw [if_neg hc]
        show (if c = j then _ else _) = _
        rw [if_neg hc]
        show (if c = j then _ else _) = _
        rw [if_neg hc]
      · exact ((Ext.wl W j _).trans (wg_x _ j 15 _)).trans (Ext.wl _ j _)
