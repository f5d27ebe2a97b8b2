/-! the train's steps as the class does them -/
theorem f_levA {a b : Nat} (hb : b < 3) : f_lev (3 * a + b) = 120 + 8 * a + (2 + b) := by unfold f_lev; omega
theorem f_restA {a b : Nat} (hb : b < 3) : f_rest (3 * a + b) = 120 + 8 * a + (5 + b) := by unfold f_rest; omega
theorem f_levJ (j : Nat) : f_lev j = 120 + 8 * (j / 3) + (2 + j % 3) := by unfold f_lev; omega
theorem f_restJ (j : Nat) : f_rest j = 120 + 8 * (j / 3) + (5 + j % 3) := by unfold f_rest; omega
theorem f_leftA (a : Nat) : f_left a = 120 + 8 * a + 1 := by unfold f_left; omega
theorem inc_nI : Int32.ofInt 1 = nI 1 := by decide
/-- closing, the jams left as they were -/
def k_A (g : Nat → Int32) (j : Nat) : Nat → Int32 := upd (q_closesN g j) 224 (g 224)
def k_U (g : Nat → Int32) (j : Nat) : Int32 := q_closesN g j 224 - g 224
theorem k_A0 (g : Nat → Int32) : k_A g 0 = g := upd_same rfl
theorem k_U0 (g : Nat → Int32) : k_U g 0 = nI 0 := (Int32.sub_self _).trans nI_0.symm
theorem k_at (g : Nat → Int32) (j : Nat) {i : Nat} (h : i ≠ 224) : k_A g j i = q_closesN g j i := pk_un h
theorem k_S (g : Nat → Int32) (j : Nat) : q_closesN g (j + 1) = q_closes (q_closesN g j) (j / 3) (j % 3) := rfl
theorem k_p {g : Nat → Int32} {j : Nat} (hj : j < 18) (h : ¬ k_A g j (120 + 8 * (j / 3) + (5 + j % 3)) ≤ 0) : k_A g (j + 1) = upd (k_A g j) (120 + 8 * (j / 3) + (5 + j % 3)) (k_A g j (120 + 8 * (j / 3) + (5 + j % 3)) - nI 1) ∧ k_U g (j + 1) = k_U g j := by
  rw [k_at g j (by omega)] at h ⊢
  have e : q_closesN g (j + 1) = upd (q_closesN g j) (120 + 8 * (j / 3) + (5 + j % 3)) (q_closesN g j (120 + 8 * (j / 3) + (5 + j % 3)) - nI 1) := by rw [k_S]; unfold q_closes; rw [if_neg h]
  constructor
  · unfold k_A
    rw [e]
    funext a
    by_cases ha : a = 224
    · subst ha; rw [pk_us, pk_un (by omega), pk_us]
    · rw [pk_un ha]
      by_cases hb : a = 120 + 8 * (j / 3) + (5 + j % 3)
      · subst hb; rw [pk_us, pk_us]
      · rw [pk_un hb, pk_un hb, pk_un ha]
  · unfold k_U; rw [e, pk_un (by omega)]
theorem k_n {g : Nat → Int32} {j : Nat} (hj : j < 18) (h : k_A g j (120 + 8 * (j / 3) + (5 + j % 3)) ≤ 0) (h2 : ¬ k_A g j (120 + 8 * (j / 3) + (5 + j % 3)) = 0) : k_A g (j + 1) = k_A g j ∧ k_U g (j + 1) = k_U g j := by
  rw [k_at g j (by omega)] at h h2
  have e : q_closesN g (j + 1) = q_closesN g j := by rw [k_S]; unfold q_closes; rw [if_pos h, if_neg h2]
  exact ⟨by unfold k_A; rw [e], by unfold k_U; rw [e]⟩
theorem k_z {g : Nat → Int32} {j : Nat} {u : Int32} (hj : j < 18) (h2 : k_A g j (120 + 8 * (j / 3) + (5 + j % 3)) = 0) (hu : (if k_A g j (120 + 8 * (j / 3)) ≤ g 231 then nI 0 else nI 1) = u) : k_A g (j + 1) = upd (upd (k_A g j) (120 + 8 * (j / 3) + (2 + j % 3)) u) (120 + 8 * (j / 3) + (5 + j % 3)) (-1001) ∧ k_U g (j + 1) = k_U g j + u := by
  have e1 : q_closesN g j 231 = g 231 := q_closesN_off g (by omega) (Or.inr (by omega)) (by omega)
  rw [k_at g j (by omega)] at h2 hu
  have e : q_closesN g (j + 1) = upd (upd (upd (q_closesN g j) (120 + 8 * (j / 3) + (2 + j % 3)) u) (120 + 8 * (j / 3) + (5 + j % 3)) (-1001)) 224 (q_closesN g j 224 + u) := by
    have ej : q_jam (q_closesN g j) (j / 3) = u := by unfold q_jam; rw [e1]; exact hu
    rw [k_S]; unfold q_closes q_c1
    rw [if_pos (by rw [h2]; exact Int32.le_refl 0), if_pos h2, ej, pk_un (by omega : (224 : Nat) ≠ 120 + 8 * (j / 3) + (5 + j % 3)), pk_un (by omega : (224 : Nat) ≠ 120 + 8 * (j / 3) + (2 + j % 3))]
  constructor
  · unfold k_A
    rw [e, upd_upd]
    funext a
    by_cases ha : a = 224
    · subst ha; rw [pk_us, pk_un (by omega), pk_un (by omega), pk_us]
    · rw [pk_un ha]
      by_cases hb : a = 120 + 8 * (j / 3) + (5 + j % 3)
      · subst hb; rw [pk_us, pk_us]
      · rw [pk_un hb, pk_un hb]
        by_cases hc : a = 120 + 8 * (j / 3) + (2 + j % 3)
        · subst hc; rw [pk_us, pk_us]
        · rw [pk_un hc, pk_un hc, pk_un ha]
  · unfold k_U
    rw [e, pk_us, Int32.sub_eq_add_neg, Int32.sub_eq_add_neg (q_closesN g j 224)]
    ac_rfl
theorem q_closes_ne (M : Nat → Int32) {w d j : Nat} (hj2 : j ≠ 224) (h1 : j ≠ 120 + 8 * w + (2 + d)) (h3 : j ≠ 120 + 8 * w + (5 + d)) : q_closes M w d j = M j := by
  unfold q_closes q_c1
  split
  · split
    · rw [pk_un hj2, pk_un h3, pk_un h1]
    · rfl
  · rw [pk_un h3]
theorem k_rest {g : Nat → Int32} {i : Nat} (hi : i < 18) : ∀ n, n ≤ i → q_closesN g n (120 + 8 * (i / 3) + (5 + i % 3)) = g (120 + 8 * (i / 3) + (5 + i % 3))
  | 0, _ => rfl
  | n + 1, hn => by
    rw [k_S, q_closes_ne _ (by omega) (by omega) (by omega)]
    exact k_rest hi n (by omega)
theorem k_end {g : Nat → Int32} {cn : Nat} (h : NW g cn) : ∀ n, 3 * cn ≤ n → n ≤ 18 → q_closesN g n = q_closesN g (3 * cn)
  | 0, h0, _ => by rw [show cn = 0 by omega]
  | n + 1, h0, h1 => by
    by_cases hn : 3 * cn = n + 1
    · rw [hn]
    · rw [← k_end h n (by omega) (by omega), k_S]
      have e := k_rest (g := g) (i := n) (by omega) n (Nat.le_refl n)
      have e2 := ((h (n / 3) (by omega) (by omega)).2 (n % 3) (by omega)).2
      rw [show 125 + 8 * (n / 3) + n % 3 = 120 + 8 * (n / 3) + (5 + n % 3) by omega] at e2
      unfold q_closes
      rw [e, e2, if_pos (by decide), if_neg (by decide)]
