theorem rz_State (γ : Gm) {w : Wd} {g : Nat → Int32} {k : Nat} (hk : k < 8) (hA : w.1 k = g) : (rdw γ w).1 (γ.1 + so k) = some (.inr (2, [.ref (γ.1 + so k + 1), .ref (γ.1 + so k + 2), .ref (γ.1 + so k + 4), .ref (γ.1 + so k + 9), .int (g 222), .int (g 224), .int (g 225), .int (g 226), .int (g 227)])) := by
  subst hA
  have h9 := rd_State γ w (w.1 k) hk
  rw [wset_self] at h9
  exact h9
theorem rz_Settings (γ : Gm) {w : Wd} {g : Nat → Int32} {k : Nat} (hk : k < 8) (hA : w.1 k = g) : (rdw γ w).1 (γ.1 + so k + 1) = some (iE γ 5 (vw 5 f_set g)) := by
  subst hA
  have h9 := rd_Settings γ w (w.1 k) hk
  rw [wset_self] at h9
  exact h9
theorem rz_Track (γ : Gm) {w : Wd} {g : Nat → Int32} {k : Nat} (hk : k < 8) (hA : w.1 k = g) : (rdw γ w).1 (γ.1 + so k + 2) = some (.inr (4, [.ref (γ.1 + so k + 3)])) := by
  subst hA
  have h9 := rd_Track γ w (w.1 k) hk
  rw [wset_self] at h9
  exact h9
theorem rz_Heights (γ : Gm) {w : Wd} {g : Nat → Int32} {k : Nat} (hk : k < 8) (hA : w.1 k = g) : (rdw γ w).1 (γ.1 + so k + 3) = some (iE γ 120 (vw 120 f_hts g)) := by
  subst hA
  have h9 := rd_Heights γ w (w.1 k) hk
  rw [wset_self] at h9
  exact h9
theorem rz_Train (γ : Gm) {w : Wd} {g : Nat → Int32} {k : Nat} (hk : k < 8) (hA : w.1 k = g) : (rdw γ w).1 (γ.1 + so k + 4) = some (.inr (5, [.int (g 218), .int (g 219), .int (g 220), .int (g 221), .ref (γ.1 + so k + 5), .ref (γ.1 + so k + 6), .ref (γ.1 + so k + 7), .ref (γ.1 + so k + 8)])) := by
  subst hA
  have h9 := rd_Train γ w (w.1 k) hk
  rw [wset_self] at h9
  exact h9
theorem rz_Load (γ : Gm) {w : Wd} {g : Nat → Int32} {k : Nat} (hk : k < 8) (hA : w.1 k = g) : (rdw γ w).1 (γ.1 + so k + 5) = some (iE γ 6 (vw 6 f_load g)) := by
  subst hA
  have h9 := rd_Load γ w (w.1 k) hk
  rw [wset_self] at h9
  exact h9
theorem rz_Left (γ : Gm) {w : Wd} {g : Nat → Int32} {k : Nat} (hk : k < 8) (hA : w.1 k = g) : (rdw γ w).1 (γ.1 + so k + 6) = some (iE γ 6 (vw 6 f_left g)) := by
  subst hA
  have h9 := rd_Left γ w (w.1 k) hk
  rw [wset_self] at h9
  exact h9
theorem rz_Level (γ : Gm) {w : Wd} {g : Nat → Int32} {k : Nat} (hk : k < 8) (hA : w.1 k = g) : (rdw γ w).1 (γ.1 + so k + 7) = some (iE γ 18 (vw 18 f_lev g)) := by
  subst hA
  have h9 := rd_Level γ w (w.1 k) hk
  rw [wset_self] at h9
  exact h9
theorem rz_Rest (γ : Gm) {w : Wd} {g : Nat → Int32} {k : Nat} (hk : k < 8) (hA : w.1 k = g) : (rdw γ w).1 (γ.1 + so k + 8) = some (iE γ 18 (vw 18 f_rest g)) := by
  subst hA
  have h9 := rd_Rest γ w (w.1 k) hk
  rw [wset_self] at h9
  exact h9
theorem pt_couples (g : Nat → Int32) (x : Int32) : pt 8 (fun _ => (-1001)) (pt 7 (fun _ => nI 0) (pt 6 (fun _ => nI 0) (pt 5 (fun _ => nI 0) (upd (upd (upd (upd g 218 x) 219 (-1)) 220 (nI 0)) 221 (nI 0))))) = q_couples g x := by
  funext i
  by_cases h : 120 ≤ i ∧ i < 168
  · unfold q_couples
    rw [pk_un (by omega), pk_un (by omega), pk_un (by omega), pk_un (by omega)]
    simp only [pt, domB, decide_eq_true_eq, q_clrN, q_cl]
    rw [if_pos (show 120 ≤ i ∧ i < 120 + 48 by omega)]
    by_cases h8 : 5 ≤ i % 8
    · rw [if_pos (by omega), if_neg (by omega)]
    · rw [if_neg (by omega), if_pos (show (i - 120) % 8 < 5 by omega)]
      by_cases h7 : 2 ≤ i % 8
      · rw [if_pos (by omega)]
      · rw [if_neg (by omega)]
        by_cases h6 : i % 8 = 1
        · rw [if_pos (by omega)]
        · rw [if_neg (by omega), if_pos (by omega)]
  · simp only [pt, domB, decide_eq_true_eq]
    rw [if_neg (by omega), if_neg (by omega), if_neg (by omega), if_neg (by omega)]
    have e : q_clrN g 48 i = g i := by simp only [q_clrN]; rw [if_neg (by omega)]
    unfold q_couples
    by_cases a1 : i = 221
    · subst a1; rw [pk_us, pk_us]
    · rw [pk_un a1, pk_un a1]
      by_cases a2 : i = 220
      · subst a2; rw [pk_us, pk_us]
      · rw [pk_un a2, pk_un a2]
        by_cases a3 : i = 219
        · subst a3; rw [pk_us, pk_us]
        · rw [pk_un a3, pk_un a3]
          by_cases a4 : i = 218
          · subst a4; rw [pk_us, pk_us]
          · rw [pk_un a4, pk_un a4, e]
/-- the train's numbers of a row taken from another -/
def ptT (A g : Nat → Int32) : Nat → Int32 := pt 8 A (pt 7 A (pt 6 A (pt 5 A (upd (upd (upd (upd g 218 (A 218)) 219 (A 219)) 220 (A 220)) 221 (A 221)))))
