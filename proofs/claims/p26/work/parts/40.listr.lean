/-! contracts with more room; lists and the numbers that their orders have -/
theorem Cr_wk {l : Launch} {γ : Gm} {y : MethodName} {cc : ByteArray} {maxL : Nat} {ret : Option FieldType} {fr lc mc ms fr' lc' mc' ms' : Nat} {av : List Value} {hh : HP} {Post Post' : Option Value → HP → Prop} (h : Cr l γ y cc maxL ret fr lc mc ms av hh Post) (h1 : fr ≤ fr') (h2 : lc ≤ lc') (h3 : mc ≤ mc') (h4 : ms ≤ ms') (hP : ∀ v x, Post v x → Post' v x) : Cr l γ y cc maxL ret fr' lc' mc' ms' av hh Post' := by
  intro p e ha hc hk s m args below hf happ hp hK
  have happ' : (headSpec (.code y cc maxL ret :: tb) { frames := fr, cells := mc, slots := ms, locals := lc }).appliesLoose y e.platform s = true := by
    rw [Spec.appliesLoose_iff hf] at happ ⊢
    obtain ⟨a1, a2, a3, a4, a5, a6, a7, a8⟩ := happ
    refine ⟨a1, a2, a3, a4, a5, a6, ?_, a8⟩
    have a7 : s.hasRoom e.platform { frames := fr', cells := mc', slots := ms', locals := lc' } = true := a7
    show s.hasRoom e.platform { frames := fr, cells := mc, slots := ms, locals := lc } = true
    unfold State.hasRoom at a7 ⊢
    simp only [Bool.and_eq_true, decide_eq_true_eq] at a7 ⊢
    obtain ⟨⟨⟨⟨b1, b2⟩, b3⟩, b4⟩, b5⟩ := a7
    exact ⟨⟨⟨⟨by omega, by omega⟩, by omega⟩, by omega⟩, b5⟩
  obtain ⟨n, o, q1, q2, q3, ⟨⟨⟨v, h', ho, hPo, hok⟩, hF⟩, L, hE, hL⟩⟩ := h p e ha hc hk s m args below hf happ' hp hK
  exact ⟨n, o, q1, q2, q3, ⟨⟨⟨v, h', ho, hP v h' hPo, hok⟩, hF⟩, L, ⟨hE.1, hE.2.1, hE.2.2.mono h3 h4⟩, hL⟩⟩
section ND
variable {p : Program} {l : Launch} {e : Env} {R : Room} {s : State} {m : MethodId} {args : Array Value} {below : List Frame} {meth : Method} {c : Code} {γ : Gm} {Q : State → Prop} {k j pc : Nat} {L : List (Option Value)} {st : List Value} {P : HP → Prop}
theorem nd_i {x : Int32} (kk : ∀ h1, P h1 → V p l e R s m args below meth c γ Q h1 k j pc L (.int x :: st)) : ∀ (v : Option Value) (h' : HP), (v = some (.int x) ∧ P h') → V p l e R s m args below meth c γ Q h' k j pc L (v.toList ++ st) := by rintro v h' ⟨rfl, hp⟩; exact kk h' hp
theorem nd_l {x : Int64} (kk : ∀ h1, P h1 → V p l e R s m args below meth c γ Q h1 k j pc L (.long x :: st)) : ∀ (v : Option Value) (h' : HP), (v = some (.long x) ∧ P h') → V p l e R s m args below meth c γ Q h' k j pc L (v.toList ++ st) := by rintro v h' ⟨rfl, hp⟩; exact kk h' hp
theorem nd_r {x : Nat} (kk : ∀ h1, P h1 → V p l e R s m args below meth c γ Q h1 k j pc L (.ref x :: st)) : ∀ (v : Option Value) (h' : HP), (v = some (.ref x) ∧ P h') → V p l e R s m args below meth c γ Q h' k j pc L (v.toList ++ st) := by rintro v h' ⟨rfl, hp⟩; exact kk h' hp
theorem nd_v (kk : ∀ h1, P h1 → V p l e R s m args below meth c γ Q h1 k j pc L st) : ∀ (v : Option Value) (h' : HP), (v = none ∧ P h') → V p l e R s m args below meth c γ Q h' k j pc L (v.toList ++ st) := by rintro v h' ⟨rfl, hp⟩; exact kk h' hp
end ND
/-- what was there is there -/
def Ext (W W' : Wd) : Prop := W.2.2.2.2 ≤ W'.2.2.2.2 ∧ (∀ a, a < W.2.2.2.2 → W'.2.2.1 a = W.2.2.1 a) ∧ W'.2.2.2.1 = W.2.2.2.1
theorem Ext.refl (W : Wd) : Ext W W := ⟨Nat.le_refl _, fun _ _ => rfl, rfl⟩
theorem Ext.trans {W W' W'' : Wd} (h : Ext W W') (h' : Ext W' W'') : Ext W W'' := ⟨Nat.le_trans h.1 h'.1, fun a ha => (h'.2.1 a (Nat.lt_of_lt_of_le ha h.1)).trans (h.2.1 a ha), h'.2.2.trans h.2.2⟩
def OrdAt (γ : Gm) (W : Wd) (a : Nat) (o : Nat → Int32) : Prop := γ.1 + 92 ≤ a ∧ a < W.2.2.2.2 ∧ ∃ v : Nat → Int32, W.2.2.1 a = some (.inr v) ∧ ∀ z, z < 5 → v z = o z
theorem OrdAt.ext {γ : Gm} {W W' : Wd} {a : Nat} {o : Nat → Int32} (h : OrdAt γ W a o) (hE : Ext W W') : OrdAt γ W' a o := by
  obtain ⟨h1, h2, v, h3, h4⟩ := h
  exact ⟨h1, Nat.lt_of_lt_of_le h2 hE.1, v, (hE.2.1 a h2).trans h3, h4⟩
theorem OrdAt.congr {γ : Gm} {W : Wd} {a : Nat} {o o' : Nat → Int32} (h : OrdAt γ W a o) (he : ∀ z, z < 5 → o z = o' z) : OrdAt γ W a o' := by
  obtain ⟨h1, h2, v, h3, h4⟩ := h
  exact ⟨h1, h2, v, h3, fun z hz => (h4 z hz).trans (he z hz)⟩
def LB (γ : Gm) (W : Wd) (j q : Nat) (row : Nat → Option Nat) : Prop := ∃ mc : Int32, W.2.1 j = (mc, q, γ.2.2.2 2, 0, row) ∧ q = 0
theorem LB.q0 {γ : Gm} {W : Wd} {j q : Nat} {row : Nat → Option Nat} (h : LB γ W j q row) : q = 0 := by
  obtain ⟨mc, _, h⟩ := h
  exact h
theorem LB.ext {γ : Gm} {W W' : Wd} {j q : Nat} {row : Nat → Option Nat} (h : LB γ W j q row) (hE : Ext W W') (hj : W'.2.1 j = W.2.1 j) : LB γ W' j q row := by
  obtain ⟨mc, h1, h2⟩ := h
  exact ⟨mc, hj.trans h1, h2⟩
theorem LO.ext {γ : Gm} {W W' : Wd} {q : Nat} {row : Nat → Option Nat} (h : LO γ W row q) (hE : Ext W W') : LO γ W' row q := by
  intro t ht
  obtain ⟨a, o, h1, h2, h3, h4⟩ := h t ht
  exact ⟨a, o, h1, h2, Nat.lt_of_lt_of_le h3 hE.1, (hE.2.1 _ h3).trans h4⟩
/-- its orders are those of the row of numbers M from b on -/
def LR (γ : Gm) (W : Wd) (b q : Nat) (row : Nat → Option Nat) (M : Nat → Int32) : Prop := ∀ t, t < q → ∃ a, row t = some a ∧ OrdAt γ W a (fun z => M (b + 5 * t + z))
def LF (γ : Gm) (W : Wd) (j b q : Nat) (M : Nat → Int32) : Prop := ∃ row, LB γ W j q row ∧ LR γ W b q row M
theorem LR.lo {γ : Gm} {W : Wd} {b q : Nat} {row : Nat → Option Nat} {M : Nat → Int32} (h : LR γ W b q row M) : LO γ W row q := by
  intro t ht
  obtain ⟨a, h1, h2, h3, v, h4, _⟩ := h t ht
  exact ⟨a, v, h1, h2, h3, h4⟩
theorem LR.ext {γ : Gm} {W W' : Wd} {b q : Nat} {row : Nat → Option Nat} {M : Nat → Int32} (h : LR γ W b q row M) (hE : Ext W W') : LR γ W' b q row M := by
  intro t ht
  obtain ⟨a, h1, h2⟩ := h t ht
  exact ⟨a, h1, h2.ext hE⟩
theorem LF.ext {γ : Gm} {W W' : Wd} {j b q : Nat} {M : Nat → Int32} (h : LF γ W j b q M) (hE : Ext W W') (hj : W'.2.1 j = W.2.1 j) : LF γ W' j b q M := by
  obtain ⟨row, h1, h2⟩ := h
  exact ⟨row, h1.ext hE hj, h2.ext hE⟩
theorem LF.congr {γ : Gm} {W : Wd} {j b q : Nat} {M N : Nat → Int32} (h : LF γ W j b q M) (he : ∀ i, b ≤ i → i < b + 5 * q → N i = M i) : LF γ W j b q N := by
  obtain ⟨row, h1, h2⟩ := h
  refine ⟨row, h1, fun t ht => ?_⟩
  obtain ⟨a, h3, h4⟩ := h2 t ht
  exact ⟨a, h3, h4.congr fun z hz => (he _ (by omega) (by omega)).symm⟩
/-- a list of orders, whatever they say -/
def LQ (γ : Gm) (W : Wd) (j : Nat) : Prop := ∃ q row, LB γ W j q row ∧ LO γ W row q
theorem LQ.ext {γ : Gm} {W W' : Wd} {j : Nat} (h : LQ γ W j) (hE : Ext W W') (hj : W'.2.1 j = W.2.1 j) : LQ γ W' j := by
  obtain ⟨q, row, h1, h2⟩ := h
  exact ⟨q, row, h1.ext hE hj, h2.ext hE⟩
theorem LF.lq {γ : Gm} {W : Wd} {j b q : Nat} {M : Nat → Int32} (h : LF γ W j b q M) : LQ γ W j := by
  obtain ⟨row, h1, h2⟩ := h
  exact ⟨q, row, h1, h2.lo⟩
theorem wl_ws (W : Wd) (j k : Nat) (M : Nat → Int32) (v v' : LVt) : wl (wset (wl W j v) k M) j v' = wset (wl W j v') k M := by
  show wset (wl (wl W j v) j v') k M = _
  rw [wl_wl]
theorem ws_wl (W : Wd) (j k : Nat) (M : Nat → Int32) (v : LVt) : wl (wset W k M) j v = wset (wl W j v) k M := rfl
theorem Ext.wl (W : Wd) (j : Nat) (v : LVt) : Ext W (wl W j v) := ⟨Nat.le_refl _, fun _ _ => rfl, rfl⟩
theorem Ext.ws (W : Wd) (j : Nat) (v : Nat → Int32) : Ext W (wset W j v) := ⟨Nat.le_refl _, fun _ _ => rfl, rfl⟩
/-- the list of a state -/
theorem lA_so (γ : Gm) {k : Nat} (hk : k < 8) : γ.1 + so k + 9 = γ.1 + lA k := by unfold lA; rw [if_pos hk, Nat.add_assoc]
theorem LF.q0 {γ : Gm} {W : Wd} {j b q : Nat} {M : Nat → Int32} (h : LF γ W j b q M) : q = 0 := by
  obtain ⟨row, h1, _⟩ := h
  exact h1.q0
/-! the lists' contracts: no list of this law has an order -/
theorem k_size (l : Launch) (γ : Gm) (W : Wd) (j q : Nat) (row : Nat → Option Nat) (hj : j < 9) (p : Nat) (hp : p = γ.1 + lA j) (hB : LB γ W j q row) : Cr l γ yJx4a65c_size_8abf5 cJx4a65c_size_8abf5 1 (some .int) 0 0 0 0 [.ref p] (rdw γ W) (Det (some (.int (nI q))) (rdw γ W)) := by
  subst hp
  obtain ⟨mc, hv, rfl⟩ := hB
  exact c_Jx4a65c_size_8abf5 l γ W j mc 0 (γ.2.2.2 2) 0 row hj hv (by omega) (by omega)
theorem k_clear (l : Launch) (γ : Gm) (W : Wd) (j q : Nat) (row : Nat → Option Nat) (hj : j < 9) (p : Nat) (hp : p = γ.1 + lA j) (hB : LB γ W j q row) : Cr l γ yJx4a65c_clear_da8c8 cJx4a65c_clear_da8c8 4 none 0 0 0 0 [.ref p] (rdw γ W) (fun v h' => v = none ∧ ∃ v' row', h' = rdw γ (wl W j v') ∧ LB γ (wl W j v') j 0 row') := by
  subst hp
  obtain ⟨mc, hv, rfl⟩ := hB
  refine Cr_wk (c_Jx4a65c_clear_da8c8_g l γ W j mc row hj hv) (Nat.le_refl _) (Nat.le_refl _) (Nat.le_refl _) (Nat.le_refl _) ?_
  rintro v x ⟨rfl, rfl⟩
  exact ⟨rfl, _, _, rfl, _, wl_at _ _ _, rfl⟩
