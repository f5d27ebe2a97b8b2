/-! the reading of a text -/
def t_nx (T : Nat → Int32) (n a : Nat) : Int32 := if n ≤ a then (-1) else T a
def t_blF (T : Nat → Int32) (n : Nat) : Nat → Nat → Nat
  | 0, a => a
  | f + 1, a => if t_nx T n a = nI 32 then t_blF T n f (a + 1) else a
def t_bl (T : Nat → Int32) (n a : Nat) : Nat := t_blF T n (n - a) a
theorem t_nx_ge {T : Nat → Int32} {n a : Nat} (h : n ≤ a) : t_nx T n a = (-1) := if_pos h
theorem t_bl_t {T : Nat → Int32} {n a : Nat} (h : t_nx T n a = nI 32) : t_bl T n (a + 1) = t_bl T n a := by
  rcases Nat.lt_or_ge a n with z | z
  · unfold t_bl
    rw [show n - a = (n - (a + 1)) + 1 by omega]
    show _ = if _ then _ else _
    rw [if_pos h]
  · rw [t_nx_ge z] at h; exact absurd h (by decide)
theorem t_bl_f {T : Nat → Int32} {n a : Nat} (h : ¬ t_nx T n a = nI 32) : t_bl T n a = a := by
  unfold t_bl
  cases n - a
  · rfl
  · show (if _ then _ else _) = _
    rw [if_neg h]
theorem t_blF_le (T : Nat → Int32) (n : Nat) : ∀ f a, t_blF T n f a ≤ a + f
  | 0, a => Nat.le_refl a
  | f + 1, a => by
    show (if _ then _ else _) ≤ _
    split
    · have := t_blF_le T n f (a + 1); omega
    · omega
theorem t_blF_ge (T : Nat → Int32) (n : Nat) : ∀ f a, a ≤ t_blF T n f a
  | 0, a => Nat.le_refl a
  | f + 1, a => by
    show _ ≤ (if _ then _ else _)
    split
    · have := t_blF_ge T n f (a + 1); omega
    · omega
theorem t_bl_ge (T : Nat → Int32) (n a : Nat) : a ≤ t_bl T n a := t_blF_ge T n _ a
theorem t_bl_le (T : Nat → Int32) (n a : Nat) : t_bl T n a ≤ a + n := by have := t_blF_le T n (n - a) a; unfold t_bl; omega
theorem t_bl_max (T : Nat → Int32) (n a B : Nat) (h : a ≤ B) (hn : n ≤ B) : t_bl T n a ≤ B := by have := t_blF_le T n (n - a) a; unfold t_bl; omega
/-- where the reading stands, and its fault -/
abbrev Rd := Nat × Int32
def st (S : Nat → Int32) (p : Rd) : Nat → Int32 := upd (upd S 3 (nI p.1)) 4 p.2
theorem st_3 (S : Nat → Int32) (p : Rd) : st S p 3 = nI p.1 := by unfold st; rw [pk_un (by decide), pk_us]
theorem st_4 (S : Nat → Int32) (p : Rd) : st S p 4 = p.2 := by unfold st; rw [pk_us]
theorem st_o (S : Nat → Int32) (p : Rd) {j : Nat} (h : j ≠ 3) (h4 : j ≠ 4) : st S p j = S j := by unfold st; rw [pk_un h4, pk_un h]
theorem st_u3 (S : Nat → Int32) (p : Rd) (a : Nat) : upd (st S p) 3 (nI a) = st S (a, p.2) := by
  funext j
  by_cases h : j = 3
  · subst h; rw [pk_us, st_3]
  · rw [pk_un h]
    by_cases h4 : j = 4
    · subst h4; rw [st_4, st_4]
    · rw [st_o S p h h4, st_o S _ h h4]
theorem st_u4 (S : Nat → Int32) (p : Rd) (x : Int32) : upd (st S p) 4 x = st S (p.1, x) := by
  funext j
  by_cases h : j = 4
  · subst h; rw [pk_us, st_4]
  · rw [pk_un h]
    by_cases h4 : j = 3
    · subst h4; rw [st_3, st_3]
    · rw [st_o S p h4 h, st_o S _ h4 h]
theorem st_u2 (S : Nat → Int32) (p : Rd) (x : Int32) : upd (st S p) 2 x = st (upd S 2 x) p := by
  funext j
  by_cases h : j = 2
  · subst h; rw [pk_us, st_o _ _ (by decide) (by decide), pk_us]
  · rw [pk_un h]
    by_cases h4 : j = 3
    · subst h4; rw [st_3, st_3]
    · by_cases h5 : j = 4
      · subst h5; rw [st_4, st_4]
      · rw [st_o S p h4 h5, st_o _ _ h4 h5, pk_un h]
theorem st_st (S : Nat → Int32) (p q : Rd) : st (st S p) q = st S q := by
  show upd (upd (st S p) 3 (nI q.1)) 4 q.2 = _
  rw [st_u3, st_u4]
theorem st_of {S : Nat → Int32} {a : Nat} {f : Int32} (h3 : S 3 = nI a) (h4 : S 4 = f) : st S (a, f) = S := by unfold st; rw [upd_same h3, upd_same h4]
abbrev t_dg (T : Nat → Int32) (n a : Nat) : Prop := ¬ t_nx T n a < nI 48 ∧ ¬ nI 57 < t_nx T n a
def r_fail (p : Rd) (x : Int32) : Rd := (p.1, if p.2 = (-1001) then x else p.2)
def r_needs (T : Nat → Int32) (n : Nat) (p : Rd) (c : Prop) [Decidable c] : Rd := if p.2 = (-1001) ∧ c then (t_bl T n (p.1 + 1), p.2) else r_fail p (nI p.1)
abbrev t_isD (T : Nat → Int32) (n a : Nat) (x z : Int32) : Prop := ¬ (t_nx T n a - nI 48) < x ∧ ¬ z < (t_nx T n a - nI 48)
abbrev t_isL (c : Int32) : Prop := c = nI 108 ∨ c = nI 109 ∨ c = nI 114
abbrev t_isK (c : Int32) : Prop := c = nI 111 ∨ c = nI 99 ∨ c = nI 118
def t_lno (c : Int32) : Int32 := if c = nI 108 then nI 0 else (if c = nI 109 then nI 1 else nI 2)
def t_kno (c : Int32) : Int32 := if c = nI 111 then nI 0 else (if c = nI 99 then nI 1 else nI 2)
/-- the value of the first d digits from a on -/
def t_val (T : Nat → Int32) (n a : Nat) : Nat → Int32
  | 0 => nI 0
  | d + 1 => nI 10 * t_val T n a d + t_nx T n (a + d) - nI 48
def t_d (T : Nat → Int32) (n : Nat) (p : Rd) : Nat := if p.2 = (-1001) then (if t_dg T n p.1 then (if t_dg T n (p.1 + 1) then 2 else 1) else 0) else 0
theorem t_d_le (T : Nat → Int32) (n : Nat) (p : Rd) : t_d T n p ≤ 2 := by
  unfold t_d
  split
  · split
    · split
      · exact Nat.le_refl 2
      · decide
    · decide
  · decide
def r_c1 (T : Nat → Int32) (n : Nat) (p : Rd) : Rd := if t_d T n p = 0 ∨ ¬ t_val T n p.1 (t_d T n p) < nI 40 then r_fail (p.1 + t_d T n p, p.2) (nI p.1) else (p.1 + t_d T n p, p.2)
def r_c2 (T : Nat → Int32) (n : Nat) (p : Rd) : Rd := if t_dg T n (r_c1 T n p).1 then r_fail (r_c1 T n p) (nI (r_c1 T n p).1) else r_c1 T n p
def r_cell (T : Nat → Int32) (n : Nat) (p : Rd) : Rd := (t_bl T n (r_c2 T n p).1, (r_c2 T n p).2)
def r_cv (T : Nat → Int32) (n : Nat) (p : Rd) : Int32 := t_val T n p.1 (t_d T n p)
def r_1 (T : Nat → Int32) (n : Nat) (p : Rd) : Rd := r_needs T n p (t_nx T n p.1 = nI 64)
def r_2 (T : Nat → Int32) (n : Nat) (p : Rd) : Rd := r_cell T n (r_1 T n p)
def r_k (T : Nat → Int32) (n : Nat) (p : Rd) : Int32 := t_nx T n (r_2 T n p).1
def r_3 (T : Nat → Int32) (n : Nat) (p : Rd) : Rd := r_needs T n (r_2 T n p) (t_isK (r_k T n p))
def r_4 (T : Nat → Int32) (n : Nat) (p : Rd) : Rd := if r_k T n p = nI 118 then r_3 T n p else r_needs T n (r_3 T n p) (t_isD T n (r_3 T n p).1 (nI 0) (nI 5))
def r_5 (T : Nat → Int32) (n : Nat) (p : Rd) : Rd := if r_k T n p = nI 118 then r_4 T n p else r_needs T n (r_4 T n p) (t_isL (t_nx T n (r_4 T n p).1))
def r_6 (T : Nat → Int32) (n : Nat) (p : Rd) : Rd := if r_k T n p = nI 111 then r_needs T n (r_5 T n p) (t_isD T n (r_5 T n p).1 (nI 1) (nI 3)) else (if r_k T n p = nI 118 then r_needs T n (r_5 T n p) (t_isD T n (r_5 T n p).1 (nI 0) (nI 3)) else r_5 T n p)
def r_7 (T : Nat → Int32) (n : Nat) (p : Rd) : Rd := r_needs T n (r_6 T n p) (t_nx T n (r_6 T n p).1 = nI 59)
def r_v0 (T : Nat → Int32) (n : Nat) (p : Rd) : Int32 := r_cv T n (r_1 T n p)
def r_v1 (T : Nat → Int32) (n : Nat) (p : Rd) : Int32 := t_kno (r_k T n p)
def r_v2 (T : Nat → Int32) (n : Nat) (p : Rd) : Int32 := if r_k T n p = nI 118 then (-1001) else t_nx T n (r_3 T n p).1 - nI 48
def r_v3 (T : Nat → Int32) (n : Nat) (p : Rd) : Int32 := if r_k T n p = nI 118 then (-1001) else t_lno (t_nx T n (r_4 T n p).1)
def r_v4 (T : Nat → Int32) (n : Nat) (p : Rd) : Int32 := if r_k T n p = nI 111 then t_nx T n (r_5 T n p).1 - nI 48 else (if r_k T n p = nI 118 then t_nx T n (r_5 T n p).1 - nI 48 else (-1001))
def r_row (T : Nat → Int32) (n : Nat) (p : Rd) (R : Nat → Int32) (k : Nat) : Nat → Int32 := upd (upd (upd (upd (upd R k (r_v0 T n p)) (k + 1) (r_v1 T n p)) (k + 2) (r_v2 T n p)) (k + 3) (r_v3 T n p)) (k + 4) (r_v4 T n p)
/-- the state, how many orders, the row -/
abbrev RX := Rd × Nat × (Nat → Int32)
def r_all (T : Nat → Int32) (n : Nat) : Nat → RX → RX
  | 0, x => x
  | f + 1, x => if x.1.2 = (-1001) ∧ x.1.1 < n then r_all T n f (r_7 T n x.1, x.2.1 + 1, r_row T n x.1 x.2.2 (5 * x.2.1)) else x
def r_reads (T : Nat → Int32) (n : Nat) (R : Nat → Int32) : RX := r_all T n 61 ((t_bl T n 0, (-1001)), 0, R)
theorem r_needs_b (T : Nat → Int32) (n : Nat) (p : Rd) (c : Prop) [Decidable c] {B : Nat} (h : p.1 ≤ B) (hn : n ≤ B) : (r_needs T n p c).1 ≤ B + 1 := by
  unfold r_needs
  split
  · exact t_bl_max T n _ _ (by omega) (by omega)
  · unfold r_fail; show p.1 ≤ _; omega
theorem r_c1_1 (T : Nat → Int32) (n : Nat) (p : Rd) : (r_c1 T n p).1 = p.1 + t_d T n p := by unfold r_c1; split <;> rfl
theorem r_c2_1 (T : Nat → Int32) (n : Nat) (p : Rd) : (r_c2 T n p).1 = p.1 + t_d T n p := by
  unfold r_c2
  split
  · exact r_c1_1 T n p
  · exact r_c1_1 T n p
theorem r_cell_b (T : Nat → Int32) (n : Nat) (p : Rd) {B : Nat} (h : p.1 ≤ B) (hn : n ≤ B) : (r_cell T n p).1 ≤ B + 2 := by
  have := t_d_le T n p
  exact t_bl_max T n _ _ (by rw [r_c2_1]; omega) (by omega)
theorem r_bs (T : Nat → Int32) (n : Nat) (p : Rd) {B : Nat} (h : p.1 ≤ B) (hn : n ≤ B) : (r_1 T n p).1 ≤ B + 1 ∧ (r_2 T n p).1 ≤ B + 3 ∧ (r_3 T n p).1 ≤ B + 4 ∧ (r_4 T n p).1 ≤ B + 5 ∧ (r_5 T n p).1 ≤ B + 6 ∧ (r_6 T n p).1 ≤ B + 7 ∧ (r_7 T n p).1 ≤ B + 8 := by
  have h1 : (r_1 T n p).1 ≤ B + 1 := r_needs_b T n p _ h hn
  have h2 : (r_2 T n p).1 ≤ B + 3 := r_cell_b T n _ h1 (by omega)
  have h3 : (r_3 T n p).1 ≤ B + 4 := r_needs_b T n _ _ h2 (by omega)
  have h4 : (r_4 T n p).1 ≤ B + 5 := by
    unfold r_4; split
    · omega
    · exact r_needs_b T n _ _ h3 (by omega)
  have h5 : (r_5 T n p).1 ≤ B + 6 := by
    unfold r_5; split
    · omega
    · exact r_needs_b T n _ _ h4 (by omega)
  have h6 : (r_6 T n p).1 ≤ B + 7 := by
    unfold r_6; split
    · exact r_needs_b T n _ _ h5 (by omega)
    · split
      · exact r_needs_b T n _ _ h5 (by omega)
      · omega
  exact ⟨h1, h2, h3, h4, h5, h6, r_needs_b T n _ _ h6 (by omega)⟩
/-! a fault stays, and every order without one takes five bytes -/
theorem r_needs_ok {T : Nat → Int32} {n : Nat} {p : Rd} {c : Prop} [Decidable c] (hp : p.1 ≤ 1000) (h : (r_needs T n p c).2 = (-1001)) : p.2 = (-1001) ∧ c ∧ r_needs T n p c = (t_bl T n (p.1 + 1), (-1001)) := by
  by_cases hc : p.2 = (-1001) ∧ c
  · refine ⟨hc.1, hc.2, ?_⟩
    unfold r_needs
    rw [if_pos hc, hc.1]
  · exfalso
    unfold r_needs at h
    rw [if_neg hc] at h
    unfold r_fail at h
    by_cases h2 : p.2 = (-1001)
    · have h3 : nI p.1 = (-1001) := (if_pos h2).symm.trans h
      have h4 : (nI p.1).toInt = p.1 := nI_toInt (by omega)
      rw [h3] at h4
      have h5 : ((-1001) : Int32).toInt = -1001 := by decide
      omega
    · exact h2 ((if_neg h2).symm.trans h)
theorem r_fail_ok {p : Rd} {w : Nat} (hw : w ≤ 1000) (h : (r_fail p (nI w)).2 = (-1001)) : False := by
  unfold r_fail at h
  by_cases h2 : p.2 = (-1001)
  · have h3 : nI w = (-1001) := (if_pos h2).symm.trans h
    have h4 : (nI w).toInt = w := nI_toInt (by omega)
    rw [h3] at h4
    have h5 : ((-1001) : Int32).toInt = -1001 := by decide
    omega
  · exact h2 ((if_neg h2).symm.trans h)
theorem r_cell_ok {T : Nat → Int32} {n : Nat} {p : Rd} (hp : p.1 ≤ 900) (h : (r_cell T n p).2 = (-1001)) : p.2 = (-1001) ∧ t_d T n p ≠ 0 ∧ t_val T n p.1 (t_d T n p) < nI 40 ∧ ¬ t_dg T n (p.1 + t_d T n p) ∧ r_cell T n p = (t_bl T n (p.1 + t_d T n p), (-1001)) := by
  have hd := t_d_le T n p
  have h2 : (r_c2 T n p).2 = (-1001) := h
  unfold r_c2 at h2
  by_cases hg : t_dg T n (r_c1 T n p).1
  · rw [if_pos hg] at h2; exact (r_fail_ok (by rw [r_c1_1]; omega) h2).elim
  · rw [if_neg hg] at h2
    have h3 := h2
    unfold r_c1 at h3
    by_cases hf : t_d T n p = 0 ∨ ¬ t_val T n p.1 (t_d T n p) < nI 40
    · rw [if_pos hf] at h3; exact (r_fail_ok (by omega) h3).elim
    · rw [if_neg hf] at h3
      rw [r_c1_1] at hg
      refine ⟨h3, fun z => hf (Or.inl z), Decidable.not_not.mp fun z => hf (Or.inr z), hg, ?_⟩
      unfold r_cell
      rw [r_c2_1]
      congr 1
theorem r_7_ok {T : Nat → Int32} {n : Nat} {p : Rd} (hp : p.1 ≤ 500) (hn : n ≤ 500) (h : (r_7 T n p).2 = (-1001)) : p.2 = (-1001) ∧ p.1 + 5 ≤ (r_7 T n p).1 := by
  obtain ⟨b1, b2, b3, b4, b5, b6, b7⟩ := r_bs T n p hp hn
  obtain ⟨a6, _, e7⟩ := r_needs_ok (by omega) h
  have g7 : (r_6 T n p).1 + 1 ≤ (r_7 T n p).1 := by show _ ≤ (r_needs T n _ _).1; rw [e7]; exact t_bl_ge T n _
  have hk : (r_3 T n p).2 = (-1001) ∧ (r_3 T n p).1 + 1 ≤ (r_6 T n p).1 := by
    by_cases k1 : r_k T n p = nI 111
    · have n8 : ¬ r_k T n p = nI 118 := by rw [k1]; decide
      have e6 : r_6 T n p = r_needs T n (r_5 T n p) (t_isD T n (r_5 T n p).1 (nI 1) (nI 3)) := by unfold r_6; rw [if_pos k1]
      have e5 : r_5 T n p = r_needs T n (r_4 T n p) (t_isL (t_nx T n (r_4 T n p).1)) := by unfold r_5; rw [if_neg n8]
      have e4 : r_4 T n p = r_needs T n (r_3 T n p) (t_isD T n (r_3 T n p).1 (nI 0) (nI 5)) := by unfold r_4; rw [if_neg n8]
      rw [e6] at a6
      obtain ⟨a5, _, f6⟩ := r_needs_ok (by omega) a6
      rw [e5] at a5
      obtain ⟨a4, _, f5⟩ := r_needs_ok (by omega) a5
      rw [e4] at a4
      obtain ⟨a3, _, f4⟩ := r_needs_ok (by omega) a4
      refine ⟨a3, ?_⟩
      have g6 := t_bl_ge T n ((r_5 T n p).1 + 1)
      have g5 := t_bl_ge T n ((r_4 T n p).1 + 1)
      have g4 := t_bl_ge T n ((r_3 T n p).1 + 1)
      have i6 : (r_6 T n p).1 = t_bl T n ((r_5 T n p).1 + 1) := by rw [e6, f6]
      have i5 : (r_5 T n p).1 = t_bl T n ((r_4 T n p).1 + 1) := by rw [e5, f5]
      have i4 : (r_4 T n p).1 = t_bl T n ((r_3 T n p).1 + 1) := by rw [e4, f4]
      omega
    · by_cases k2 : r_k T n p = nI 118
      · have e6 : r_6 T n p = r_needs T n (r_5 T n p) (t_isD T n (r_5 T n p).1 (nI 0) (nI 3)) := by unfold r_6; rw [if_neg k1, if_pos k2]
        have e5 : r_5 T n p = r_3 T n p := by unfold r_5 r_4; rw [if_pos k2, if_pos k2]
        rw [e6] at a6
        obtain ⟨a5, _, f6⟩ := r_needs_ok (by omega) a6
        rw [e5] at a5
        refine ⟨a5, ?_⟩
        have g6 := t_bl_ge T n ((r_5 T n p).1 + 1)
        have i6 : (r_6 T n p).1 = t_bl T n ((r_5 T n p).1 + 1) := by rw [e6, f6]
        rw [e5] at g6 i6
        omega
      · have e6 : r_6 T n p = r_5 T n p := by unfold r_6; rw [if_neg k1, if_neg k2]
        have e5 : r_5 T n p = r_needs T n (r_4 T n p) (t_isL (t_nx T n (r_4 T n p).1)) := by unfold r_5; rw [if_neg k2]
        have e4 : r_4 T n p = r_needs T n (r_3 T n p) (t_isD T n (r_3 T n p).1 (nI 0) (nI 5)) := by unfold r_4; rw [if_neg k2]
        rw [e6, e5] at a6
        obtain ⟨a4, _, f5⟩ := r_needs_ok (by omega) a6
        rw [e4] at a4
        obtain ⟨a3, _, f4⟩ := r_needs_ok (by omega) a4
        refine ⟨a3, ?_⟩
        have g5 := t_bl_ge T n ((r_4 T n p).1 + 1)
        have g4 := t_bl_ge T n ((r_3 T n p).1 + 1)
        have i5 : (r_5 T n p).1 = t_bl T n ((r_4 T n p).1 + 1) := by rw [e5, f5]
        have i4 : (r_4 T n p).1 = t_bl T n ((r_3 T n p).1 + 1) := by rw [e4, f4]
        rw [e6]
        omega
  obtain ⟨a2, _, e3⟩ := r_needs_ok (by omega) hk.1
  have i3 : (r_3 T n p).1 = t_bl T n ((r_2 T n p).1 + 1) := by show (r_needs T n _ _).1 = _; rw [e3]
  have g3 := t_bl_ge T n ((r_2 T n p).1 + 1)
  obtain ⟨a1, d0, _, _, e2⟩ := r_cell_ok (by omega) a2
  have i2 : (r_2 T n p).1 = t_bl T n ((r_1 T n p).1 + t_d T n (r_1 T n p)) := by show (r_cell T n _).1 = _; rw [e2]
  have g2 := t_bl_ge T n ((r_1 T n p).1 + t_d T n (r_1 T n p))
  obtain ⟨a0, _, e1⟩ := r_needs_ok (by omega) a1
  have i1 : (r_1 T n p).1 = t_bl T n (p.1 + 1) := by show (r_needs T n _ _).1 = _; rw [e1]
  have g1 := t_bl_ge T n (p.1 + 1)
  have h2 := hk.2
  exact ⟨a0, by omega⟩
