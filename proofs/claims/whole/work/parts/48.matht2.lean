/-! the class's reading of an order, and the reference's -/
def dg_p (T : Nat → Int32) (n : Nat) (p : Rd) (a b : Int32) : Rd := r_needs T n p (t_isD T n p.1 a b)
def dg_v (T : Nat → Int32) (n : Nat) (p : Rd) (a b : Int32) : Int32 := if p.2 = (-1001) ∧ t_isD T n p.1 a b then t_nx T n p.1 - nI 48 else (-1001)
def on_p (T : Nat → Int32) (n : Nat) (p : Rd) (i : Nat) : Rd := r_needs T n p (t_one i (t_nx T n p.1))
def on_v (T : Nat → Int32) (n : Nat) (p : Rd) (i : Nat) : Int32 := if p.2 = (-1001) ∧ t_one i (t_nx T n p.1) then t_num i (t_nx T n p.1) else (-1001)
def d_1 (T : Nat → Int32) (n : Nat) (p : Rd) : Rd := on_p T n p 0
def d_2 (T : Nat → Int32) (n : Nat) (p : Rd) : Rd := c_cell T n (d_1 T n p)
def d_3 (T : Nat → Int32) (n : Nat) (p : Rd) : Rd := on_p T n (d_2 T n p) 1
def d_k (T : Nat → Int32) (n : Nat) (p : Rd) : Int32 := on_v T n (d_2 T n p) 1
def d_c (T : Nat → Int32) (n : Nat) (p : Rd) : Int32 := c_cv T n (d_1 T n p)
def d_fin (T : Nat → Int32) (n : Nat) (k : Int32) (p : Rd) : Rd × Int32 × Int32 × Int32 :=
  if k = nI 0 then (dg_p T n (on_p T n (dg_p T n p (nI 0) (nI 5)) 2) (nI 1) (nI 3), dg_v T n p (nI 0) (nI 5), on_v T n (dg_p T n p (nI 0) (nI 5)) 2, dg_v T n (on_p T n (dg_p T n p (nI 0) (nI 5)) 2) (nI 1) (nI 3))
  else if k = nI 1 then (on_p T n (dg_p T n p (nI 0) (nI 5)) 2, dg_v T n p (nI 0) (nI 5), on_v T n (dg_p T n p (nI 0) (nI 5)) 2, (-1001))
  else if k = nI 2 then (dg_p T n p (nI 0) (nI 3), (-1001), (-1001), dg_v T n p (nI 0) (nI 3))
  else (p, (-1001), (-1001), (-1001))
def d_f (T : Nat → Int32) (n : Nat) (p : Rd) : Rd × Int32 × Int32 × Int32 := d_fin T n (d_k T n p) (d_3 T n p)
def d_7 (T : Nat → Int32) (n : Nat) (p : Rd) : Rd := on_p T n (d_f T n p).1 3
def d_o (T : Nat → Int32) (n : Nat) (p : Rd) : Nat → Int32 := fun z => match z with
  | 0 => d_c T n p
  | 1 => d_k T n p
  | 2 => (d_f T n p).2.1
  | 3 => (d_f T n p).2.2.1
  | _ => (d_f T n p).2.2.2
/-! letters -/
theorem tn_F {i : Nat} {x : Int32} : ∀ f j, (∀ z, j ≤ z → z < j + f → ¬ sby i z = x) → s_ixF i x f j = (-1)
  | 0, _, _ => rfl
  | f + 1, j, h => by
    show (if sby i j = x then nI j else s_ixF i x f (j + 1)) = _
    rw [if_neg (h j (Nat.le_refl _) (by omega))]
    exact tn_F f (j + 1) fun z h1 h2 => h z (by omega) (by omega)
theorem tn_no {i : Nat} {x : Int32} (h : ∀ z, z < slen i → ¬ sby i z = x) : ¬ t_one i x := by
  have e : t_num i x = (-1) := by
    unfold t_num
    split
    · rfl
    · exact tn_F _ _ fun z _ h2 => h z (by omega)
  intro z
  have h1 := z.1
  rw [e] at h1
  exact h1 (by decide)
theorem one_0 {x : Int32} : t_one 0 x ↔ x = nI 64 := by
  constructor
  · intro h
    refine Decidable.byContradiction fun z => tn_no (i := 0) (x := x) (fun j hj e => z ?_) h
    have hj : j < 1 := hj
    have : j = 0 := by omega
    subst this
    rw [← e]; decide
  · intro h; subst h; decide +kernel
theorem one_3 {x : Int32} : t_one 3 x ↔ x = nI 59 := by
  constructor
  · intro h
    refine Decidable.byContradiction fun z => tn_no (i := 3) (x := x) (fun j hj e => z ?_) h
    have hj : j < 1 := hj
    have : j = 0 := by omega
    subst this
    rw [← e]; decide
  · intro h; subst h; decide +kernel
theorem one_1 {x : Int32} : t_one 1 x ↔ t_isK x := by
  constructor
  · intro h
    refine Decidable.byContradiction fun z => tn_no (i := 1) (x := x) (fun j hj e => z ?_) h
    have hj : j < 3 := hj
    rcases (by omega : j = 0 ∨ j = 1 ∨ j = 2) with rfl | rfl | rfl
    · exact Or.inl (by rw [← e]; decide)
    · exact Or.inr (Or.inl (by rw [← e]; decide))
    · exact Or.inr (Or.inr (by rw [← e]; decide))
  · rintro (h | h | h) <;> subst h <;> decide +kernel
theorem one_2 {x : Int32} : t_one 2 x ↔ t_isL x := by
  constructor
  · intro h
    refine Decidable.byContradiction fun z => tn_no (i := 2) (x := x) (fun j hj e => z ?_) h
    have hj : j < 3 := hj
    rcases (by omega : j = 0 ∨ j = 1 ∨ j = 2) with rfl | rfl | rfl
    · exact Or.inl (by rw [← e]; decide)
    · exact Or.inr (Or.inl (by rw [← e]; decide))
    · exact Or.inr (Or.inr (by rw [← e]; decide))
  · rintro (h | h | h) <;> subst h <;> decide +kernel
theorem num_1 {x : Int32} (h : t_isK x) : t_num 1 x = t_kno x := by
  rcases h with h | h | h <;> subst h <;> decide +kernel
theorem num_2 {x : Int32} (h : t_isL x) : t_num 2 x = t_lno x := by
  rcases h with h | h | h <;> subst h <;> decide +kernel
theorem dg_noK {x : Int32} (h : ¬ x < nI 48 ∧ ¬ nI 57 < x) : ¬ t_isK x := by
  rintro (z | z | z) <;> subst z <;> exact h.2 (by decide)
theorem dg_no32 {x : Int32} (h : ¬ x < nI 48 ∧ ¬ nI 57 < x) : ¬ x = nI 32 := by
  intro z; subst z; exact h.1 (by decide)
theorem dk_cases (T : Nat → Int32) (n : Nat) (p : Rd) : d_k T n p = nI 0 ∨ d_k T n p = nI 1 ∨ d_k T n p = nI 2 ∨ d_k T n p = (-1001) := by
  unfold d_k on_v
  split
  · rename_i h
    obtain ⟨j, hj, e⟩ := in_nat (N := 2) (by decide) h.2
    rw [e]
    rcases (by omega : j = 0 ∨ j = 1 ∨ j = 2) with rfl | rfl | rfl
    · exact Or.inl rfl
    · exact Or.inr (Or.inl rfl)
    · exact Or.inr (Or.inr (Or.inl rfl))
  · exact Or.inr (Or.inr (Or.inr rfl))
/-! a step that needs something -/
theorem nd_no {T : Nat → Int32} {n : Nat} {p : Rd} {c : Prop} [Decidable c] (h : ¬ p.2 = (-1001)) : r_needs T n p c = p := by
  unfold r_needs r_fail
  rw [if_neg (fun z => h z.1), if_neg h]
theorem nd_cg {T : Nat → Int32} {n : Nat} {p : Rd} {c d : Prop} [Decidable c] [Decidable d] (h : c ↔ d) : r_needs T n p c = r_needs T n p d := by
  unfold r_needs
  by_cases hc : p.2 = (-1001) ∧ c
  · rw [if_pos hc, if_pos ⟨hc.1, h.mp hc.2⟩]
  · rw [if_neg hc, if_neg fun z => hc ⟨z.1, h.mpr z.2⟩]
theorem nd_ff {T : Nat → Int32} {n : Nat} {p : Rd} {c : Prop} [Decidable c] (h : p.2 = (-1001)) (hc : ¬ c) : r_needs T n p c = (p.1, nI p.1) := by
  unfold r_needs r_fail
  rw [if_neg (fun z => hc z.2), if_pos h]
theorem nI_nf {a : Nat} (h : a ≤ 1000) : ¬ nI a = (-1001) := fun z => by
  have h4 : (nI a).toInt = a := nI_toInt (by omega)
  rw [z, i_m1001] at h4
  omega
theorem cell_no {T : Nat → Int32} {n : Nat} {p : Rd} (h : ¬ p.2 = (-1001)) : (r_cell T n p).2 = p.2 := by
  have e1 : (r_c1 T n p).2 = p.2 := by
    unfold r_c1
    split
    · unfold r_fail; exact if_neg h
    · rfl
  show (r_c2 T n p).2 = p.2
  unfold r_c2
  split
  · unfold r_fail
    rw [e1]
    exact if_neg h
  · exact e1
/-- up to the kind's letter -/
theorem d3_eq {T : Nat → Int32} {n : Nat} {p : Rd} (hp : p.1 ≤ 400) (hn : n ≤ 400) : (d_3 T n p).2 = (r_3 T n p).2 ∧ ((r_3 T n p).2 = (-1001) → d_1 T n p = r_1 T n p ∧ d_2 T n p = r_2 T n p ∧ d_3 T n p = r_3 T n p) := by
  obtain ⟨b1, b2, b3, -⟩ := r_bs T n p hp hn
  have e1 : d_1 T n p = r_1 T n p := nd_cg one_0
  by_cases h1 : (r_1 T n p).2 = (-1001)
  · have hd := t_d_le T n (r_1 T n p)
    by_cases hb : t_bad T n (r_1 T n p)
    · have e2 : d_2 T n p = ((r_1 T n p).1 + t_d T n (r_1 T n p), nI (r_1 T n p).1) := by
        show c_cell T n (d_1 T n p) = _
        rw [e1]; unfold c_cell; rw [if_pos h1, if_pos hb]
      have n2 : ¬ nI (r_1 T n p).1 = (-1001) := nI_nf (by omega)
      have e3 : d_3 T n p = d_2 T n p := nd_no (by rw [e2]; exact n2)
      have f1 : (r_c1 T n (r_1 T n p)).2 = nI (r_1 T n p).1 := by
        unfold r_c1; rw [if_pos hb]; unfold r_fail; exact if_pos h1
      have f2 : (r_2 T n p).2 = nI (r_1 T n p).1 := by
        show (r_c2 T n (r_1 T n p)).2 = _
        unfold r_c2
        split
        · unfold r_fail
          rw [f1]; exact if_neg n2
        · exact f1
      have f3 : r_3 T n p = r_2 T n p := nd_no (by rw [f2]; exact n2)
      rw [e3, e2, f3, f2]
      exact ⟨rfl, fun z => absurd z n2⟩
    · have e2 : d_2 T n p = (t_bl T n ((r_1 T n p).1 + t_d T n (r_1 T n p)), (r_1 T n p).2) := by
        show c_cell T n (d_1 T n p) = _
        rw [e1]; unfold c_cell; rw [if_pos h1, if_neg hb]
      have f1 : r_c1 T n (r_1 T n p) = ((r_1 T n p).1 + t_d T n (r_1 T n p), (r_1 T n p).2) := by unfold r_c1; rw [if_neg hb]
      by_cases hg : t_dg T n ((r_1 T n p).1 + t_d T n (r_1 T n p))
      · have n2 : ¬ nI ((r_1 T n p).1 + t_d T n (r_1 T n p)) = (-1001) := nI_nf (by omega)
        rw [t_bl_f (dg_no32 hg)] at e2
        have e3 : d_3 T n p = ((r_1 T n p).1 + t_d T n (r_1 T n p), nI ((r_1 T n p).1 + t_d T n (r_1 T n p))) := by
          show on_p T n (d_2 T n p) 1 = _
          rw [e2]
          exact nd_ff h1 (fun z => dg_noK hg (one_1.mp z))
        have f2 : (r_2 T n p).2 = nI ((r_1 T n p).1 + t_d T n (r_1 T n p)) := by
          show (r_c2 T n (r_1 T n p)).2 = _
          unfold r_c2
          rw [f1, if_pos hg]
          unfold r_fail
          exact if_pos h1
        have f3 : r_3 T n p = r_2 T n p := nd_no (by rw [f2]; exact n2)
        rw [e3, f3, f2]
        exact ⟨rfl, fun z => absurd z n2⟩
      · have f2 : r_2 T n p = d_2 T n p := by
          show (t_bl T n (r_c2 T n (r_1 T n p)).1, (r_c2 T n (r_1 T n p)).2) = _
          have f3 : r_c2 T n (r_1 T n p) = ((r_1 T n p).1 + t_d T n (r_1 T n p), (r_1 T n p).2) := by unfold r_c2; rw [f1, if_neg hg]
          rw [f3, e2]
        have f3 : d_3 T n p = r_3 T n p := by
          show r_needs T n (d_2 T n p) (t_one 1 (t_nx T n (d_2 T n p).1)) = r_needs T n (r_2 T n p) (t_isK (t_nx T n (r_2 T n p).1))
          rw [f2]
          exact nd_cg one_1
        rw [f3]
        exact ⟨rfl, fun _ => ⟨e1, f2.symm, rfl⟩⟩
  · have e2 : d_2 T n p = r_1 T n p := by
      show c_cell T n (d_1 T n p) = _
      rw [e1]; unfold c_cell; rw [if_neg h1]
    have e3 : d_3 T n p = r_1 T n p := by
      show on_p T n (d_2 T n p) 1 = _
      rw [e2]; exact nd_no h1
    have f2 : (r_2 T n p).2 = (r_1 T n p).2 := cell_no h1
    have f3 : r_3 T n p = r_2 T n p := nd_no (by rw [f2]; exact h1)
    rw [e3, f3, f2]
    exact ⟨rfl, fun z => absurd z h1⟩
theorem cv_ok {T : Nat → Int32} {n : Nat} {p : Rd} (hp : p.1 ≤ 900) (h : (r_cell T n p).2 = (-1001)) : c_cv T n p = r_cv T n p := by
  obtain ⟨a, b, c, _, _⟩ := r_cell_ok hp h
  unfold c_cv r_cv
  rw [if_pos a, if_neg (fun z => z.elim b (fun y => y c))]
/-- the whole order -/
theorem d7_eq {T : Nat → Int32} {n : Nat} {p : Rd} (hp : p.1 ≤ 400) (hn : n ≤ 400) : (d_7 T n p).2 = (r_7 T n p).2 ∧ ((r_7 T n p).2 = (-1001) → d_7 T n p = r_7 T n p ∧ (d_o T n p 0 = r_v0 T n p ∧ d_o T n p 1 = r_v1 T n p ∧ d_o T n p 2 = r_v2 T n p ∧ d_o T n p 3 = r_v3 T n p ∧ d_o T n p 4 = r_v4 T n p) ∧ OVo (d_o T n p)) := by
  obtain ⟨b1, b2, b3, b4, b5, b6, b7⟩ := r_bs T n p hp hn
  obtain ⟨c1, c2⟩ := d3_eq (T := T) hp hn
  by_cases h3 : (r_3 T n p).2 = (-1001)
  · obtain ⟨e1, e2, e3⟩ := c2 h3
    obtain ⟨a2, ak, -⟩ := r_needs_ok (by omega) h3
    have ak : t_isK (r_k T n p) := ak
    have ed : d_k T n p = t_kno (r_k T n p) := by
      show on_v T n (d_2 T n p) 1 = _
      rw [e2]
      unfold on_v
      rw [if_pos ⟨a2, one_1.mpr ak⟩]
      exact num_1 ak
    have ec : d_c T n p = r_v0 T n p := by
      show c_cv T n (d_1 T n p) = _
      rw [e1]
      exact cv_ok (by omega) a2
    have e7 : ∀ q, r_needs T n q (t_nx T n q.1 = nI 59) = on_p T n q 3 := fun q => (nd_cg one_3).symm
    by_cases k1 : r_k T n p = nI 111
    · have n8 : ¬ r_k T n p = nI 118 := by rw [k1]; decide
      have ek : d_k T n p = nI 0 := by rw [ed, k1]; decide
      have e4 : r_4 T n p = dg_p T n (r_3 T n p) (nI 0) (nI 5) := by unfold r_4; rw [if_neg n8]; rfl
      have e5 : r_5 T n p = on_p T n (r_4 T n p) 2 := by unfold r_5; rw [if_neg n8]; exact (nd_cg one_2).symm
      have e6 : r_6 T n p = dg_p T n (r_5 T n p) (nI 1) (nI 3) := by unfold r_6; rw [if_pos k1]; rfl
      have ef : d_f T n p = (r_6 T n p, dg_v T n (r_3 T n p) (nI 0) (nI 5), on_v T n (r_4 T n p) 2, dg_v T n (r_5 T n p) (nI 1) (nI 3)) := by
        unfold d_f d_fin
        rw [ek, if_pos rfl, e3, ← e4, ← e5, ← e6]
      have ee : d_7 T n p = r_7 T n p := by
        show on_p T n (d_f T n p).1 3 = r_needs T n (r_6 T n p) _
        rw [ef, e7]
      rw [ee]
      refine ⟨rfl, fun h7 => ⟨rfl, ?_⟩⟩
      obtain ⟨a6, _, -⟩ := r_needs_ok (by omega) h7
      rw [e6] at a6
      obtain ⟨a5, g6, -⟩ := r_needs_ok (by omega) a6
      have a5' := a5
      rw [e5] at a5
      obtain ⟨a4, g5, -⟩ := r_needs_ok (by omega) a5
      have a4' := a4
      rw [e4] at a4
      obtain ⟨a3, g4, -⟩ := r_needs_ok (by omega) a4
      have v2 : d_o T n p 2 = t_nx T n (r_3 T n p).1 - nI 48 := by
        show (d_f T n p).2.1 = _
        rw [ef]; exact if_pos ⟨a3, g4⟩
      have v3 : d_o T n p 3 = t_lno (t_nx T n (r_4 T n p).1) := by
        show (d_f T n p).2.2.1 = _
        rw [ef]; exact (if_pos ⟨a4', g5⟩).trans (num_2 (one_2.mp g5))
      have v4 : d_o T n p 4 = t_nx T n (r_5 T n p).1 - nI 48 := by
        show (d_f T n p).2.2.2 = _
        rw [ef]; exact if_pos ⟨a5', g6⟩
      refine ⟨⟨ec, ed, by rw [v2]; unfold r_v2; rw [if_neg n8], by rw [v3]; unfold r_v3; rw [if_neg n8], by rw [v4]; unfold r_v4; rw [if_pos k1]⟩, Or.inr ?_⟩
      obtain ⟨w, hw, ew⟩ := in_nat (by decide) g4
      have hl : ∃ d : Nat, d < 3 ∧ t_lno (t_nx T n (r_4 T n p).1) = nI d := by
        unfold t_lno
        split
        · exact ⟨0, by decide, rfl⟩
        · split
          · exact ⟨1, by decide, rfl⟩
          · exact ⟨2, by decide, rfl⟩
      obtain ⟨d, hd, ed2⟩ := hl
      refine ⟨w, d, by omega, hd, v2.trans ew, v3.trans ed2, fun _ z => g6.1 ?_⟩
      rw [v4] at z
      rw [i_lt, i_nI (by decide)]
      rw [i_le, i_0] at z
      omega
    · by_cases k2 : r_k T n p = nI 118
      · have ek : d_k T n p = nI 2 := by rw [ed, k2]; decide
        have e4 : r_4 T n p = r_3 T n p := by unfold r_4; rw [if_pos k2]
        have e5 : r_5 T n p = r_3 T n p := by unfold r_5; rw [if_pos k2, e4]
        have e6 : r_6 T n p = dg_p T n (r_3 T n p) (nI 0) (nI 3) := by unfold r_6; rw [if_neg k1, if_pos k2, e5]; rfl
        have ef : d_f T n p = (r_6 T n p, (-1001), (-1001), dg_v T n (r_3 T n p) (nI 0) (nI 3)) := by
          unfold d_f d_fin
          rw [ek, if_neg (by decide), if_neg (by decide), if_pos rfl, e3, ← e6]
        have ee : d_7 T n p = r_7 T n p := by
          show on_p T n (d_f T n p).1 3 = r_needs T n (r_6 T n p) _
          rw [ef, e7]
        rw [ee]
        refine ⟨rfl, fun h7 => ⟨rfl, ?_⟩⟩
        obtain ⟨a6, _, -⟩ := r_needs_ok (by omega) h7
        rw [e6] at a6
        obtain ⟨a5, g6, -⟩ := r_needs_ok (by omega) a6
        refine ⟨⟨ec, ed, ?_, ?_, ?_⟩, Or.inl ek⟩
        · show (d_f T n p).2.1 = _
          rw [ef]; unfold r_v2; rw [if_pos k2]
        · show (d_f T n p).2.2.1 = _
          rw [ef]; unfold r_v3; rw [if_pos k2]
        · show (d_f T n p).2.2.2 = _
          rw [ef]; unfold r_v4; rw [if_neg k1, if_pos k2, e5]
          exact if_pos ⟨a5, g6⟩
      · have k3 : r_k T n p = nI 99 := (ak.resolve_left k1).resolve_right k2
        have ek : d_k T n p = nI 1 := by rw [ed, k3]; decide
        have e4 : r_4 T n p = dg_p T n (r_3 T n p) (nI 0) (nI 5) := by unfold r_4; rw [if_neg k2]; rfl
        have e5 : r_5 T n p = on_p T n (r_4 T n p) 2 := by unfold r_5; rw [if_neg k2]; exact (nd_cg one_2).symm
        have e6 : r_6 T n p = r_5 T n p := by unfold r_6; rw [if_neg k1, if_neg k2]
        have ef : d_f T n p = (r_6 T n p, dg_v T n (r_3 T n p) (nI 0) (nI 5), on_v T n (r_4 T n p) 2, (-1001)) := by
          unfold d_f d_fin
          rw [ek, if_neg (by decide), if_pos rfl, e3, ← e4, ← e5, ← e6]
        have ee : d_7 T n p = r_7 T n p := by
          show on_p T n (d_f T n p).1 3 = r_needs T n (r_6 T n p) _
          rw [ef, e7]
        rw [ee]
        refine ⟨rfl, fun h7 => ⟨rfl, ?_⟩⟩
        obtain ⟨a6, _, -⟩ := r_needs_ok (by omega) h7
        rw [e6, e5] at a6
        obtain ⟨a4, g5, -⟩ := r_needs_ok (by omega) a6
        have a4' := a4
        rw [e4] at a4
        obtain ⟨a3, g4, -⟩ := r_needs_ok (by omega) a4
        have v2 : d_o T n p 2 = t_nx T n (r_3 T n p).1 - nI 48 := by
          show (d_f T n p).2.1 = _
          rw [ef]; exact if_pos ⟨a3, g4⟩
        have v3 : d_o T n p 3 = t_lno (t_nx T n (r_4 T n p).1) := by
          show (d_f T n p).2.2.1 = _
          rw [ef]; exact (if_pos ⟨a4', g5⟩).trans (num_2 (one_2.mp g5))
        refine ⟨⟨ec, ed, by rw [v2]; unfold r_v2; rw [if_neg k2], by rw [v3]; unfold r_v3; rw [if_neg k2], ?_⟩, Or.inr ?_⟩
        · show (d_f T n p).2.2.2 = _
          rw [ef]; unfold r_v4; rw [if_neg k1, if_neg k2]
        obtain ⟨w, hw, ew⟩ := in_nat (by decide) g4
        have hl : ∃ d : Nat, d < 3 ∧ t_lno (t_nx T n (r_4 T n p).1) = nI d := by
          unfold t_lno
          split
          · exact ⟨0, by decide, rfl⟩
          · split
            · exact ⟨1, by decide, rfl⟩
            · exact ⟨2, by decide, rfl⟩
        obtain ⟨d, hd, ed2⟩ := hl
        refine ⟨w, d, by omega, hd, v2.trans ew, v3.trans ed2, fun z => ?_⟩
        have z' : d_k T n p = nI 0 := z
        rw [ek] at z'
        exact absurd z' (by decide)
  · have n3 : ¬ (d_3 T n p).2 = (-1001) := by rw [c1]; exact h3
    have ek : d_k T n p = (-1001) := by
      show on_v T n (d_2 T n p) 1 = _
      unfold on_v
      refine if_neg fun z => n3 ?_
      show (r_needs T n (d_2 T n p) (t_one 1 (t_nx T n (d_2 T n p).1))).2 = _
      unfold r_needs
      rw [if_pos z]
      exact z.1
    have ef : (d_f T n p).1 = d_3 T n p := by
      unfold d_f d_fin
      rw [ek, if_neg (by decide), if_neg (by decide), if_neg (by decide)]
    have e7 : d_7 T n p = d_3 T n p := by
      show on_p T n (d_f T n p).1 3 = _
      rw [ef]; exact nd_no n3
    have g4 : (r_4 T n p).2 = (r_3 T n p).2 := by
      unfold r_4; split
      · rfl
      · rw [nd_no h3]
    have g5 : (r_5 T n p).2 = (r_3 T n p).2 := by
      unfold r_5; split
      · exact g4
      · rw [nd_no (by rw [g4]; exact h3)]; exact g4
    have g6 : (r_6 T n p).2 = (r_3 T n p).2 := by
      unfold r_6; split
      · rw [nd_no (by rw [g5]; exact h3)]; exact g5
      · split
        · rw [nd_no (by rw [g5]; exact h3)]; exact g5
        · exact g5
    have g7 : (r_7 T n p).2 = (r_3 T n p).2 := by
      unfold r_7
      rw [nd_no (by rw [g6]; exact h3)]; exact g6
    rw [e7, c1, g7]
    exact ⟨rfl, fun z => absurd z h3⟩
theorem dg_b {T : Nat → Int32} {n : Nat} {p : Rd} {a b : Int32} {B : Nat} (h : p.1 ≤ B) (hn : n ≤ B) : (dg_p T n p a b).1 ≤ B + 1 := r_needs_b T n p _ h hn
theorem on_b {T : Nat → Int32} {n : Nat} {p : Rd} {i : Nat} {B : Nat} (h : p.1 ≤ B) (hn : n ≤ B) : (on_p T n p i).1 ≤ B + 1 := r_needs_b T n p _ h hn
theorem cell_b {T : Nat → Int32} {n : Nat} {p : Rd} {B : Nat} (h : p.1 ≤ B) (hn : n ≤ B) : (c_cell T n p).1 ≤ B + 2 := by
  have hd := t_d_le T n p
  unfold c_cell
  split
  · split
    · show p.1 + t_d T n p ≤ _; omega
    · exact t_bl_max T n _ _ (by omega) (by omega)
  · omega
theorem d3_b {T : Nat → Int32} {n : Nat} {p : Rd} {B : Nat} (h : p.1 ≤ B) (hn : n ≤ B) : (d_1 T n p).1 ≤ B + 1 ∧ (d_2 T n p).1 ≤ B + 3 ∧ (d_3 T n p).1 ≤ B + 4 := by
  have h1 : (d_1 T n p).1 ≤ B + 1 := on_b h hn
  have h2 : (d_2 T n p).1 ≤ B + 3 := cell_b h1 (by omega)
  exact ⟨h1, h2, on_b h2 (by omega)⟩
theorem df_b {T : Nat → Int32} {n : Nat} {p : Rd} {B : Nat} (h : p.1 ≤ B) (hn : n ≤ B) : (d_f T n p).1.1 ≤ B + 7 ∧ (d_7 T n p).1 ≤ B + 8 := by
  obtain ⟨_, _, h3⟩ := d3_b (T := T) h hn
  have h7 : (d_f T n p).1.1 ≤ B + 7 := by
    unfold d_f d_fin
    split
    · exact dg_b (on_b (dg_b h3 (by omega)) (by omega)) (by omega)
    · split
      · have := on_b (T := T) (n := n) (i := 2) (dg_b (T := T) (n := n) (a := nI 0) (b := nI 5) h3 (by omega)) (by omega)
        show (on_p T n (dg_p T n (d_3 T n p) (nI 0) (nI 5)) 2).1 ≤ _
        omega
      · split
        · have := dg_b (T := T) (n := n) (a := nI 0) (b := nI 3) h3 (by omega)
          show (dg_p T n (d_3 T n p) (nI 0) (nI 3)).1 ≤ _
          omega
        · show (d_3 T n p).1 ≤ _; omega
  exact ⟨h7, on_b h7 (by omega)⟩
theorem r_row_at (T : Nat → Int32) (n : Nat) (p : Rd) (R : Nat → Int32) (k : Nat) : r_row T n p R k k = r_v0 T n p ∧ r_row T n p R k (k + 1) = r_v1 T n p ∧ r_row T n p R k (k + 2) = r_v2 T n p ∧ r_row T n p R k (k + 3) = r_v3 T n p ∧ r_row T n p R k (k + 4) = r_v4 T n p := by
  unfold r_row
  refine ⟨?_, ?_, ?_, ?_, pk_us⟩
  · rw [pk_un (by omega), pk_un (by omega), pk_un (by omega), pk_un (by omega), pk_us]
  · rw [pk_un (by omega), pk_un (by omega), pk_un (by omega), pk_us]
  · rw [pk_un (by omega), pk_un (by omega), pk_us]
  · rw [pk_un (by omega), pk_us]
theorem r_row_off (T : Nat → Int32) (n : Nat) (p : Rd) (R : Nat → Int32) {k i : Nat} (h : i < k) : r_row T n p R k i = R i := by
  unfold r_row
  rw [pk_un (by omega), pk_un (by omega), pk_un (by omega), pk_un (by omega), pk_un (by omega)]
