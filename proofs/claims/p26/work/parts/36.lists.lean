theorem wl_at (W : Wd) (j : Nat) (v : LVt) : (wl W j v).2.1 j = v := if_pos rfl
theorem wl_ne (W : Wd) {i j : Nat} (v : LVt) (h : i ≠ j) : (wl W j v).2.1 i = W.2.1 i := if_neg h
theorem lA_lt {j : Nat} (hj : j < 9) : lA j < 92 := by unfold lA so; split <;> (try split) <;> omega
theorem wl_wl (W : Wd) (j : Nat) (v u : LVt) : wl (wl W j v) j u = wl W j u := by
  refine Prod.ext rfl (Prod.ext (funext fun c => ?_) rfl)
  by_cases h : c = j
  · subst h; rw [wl_at, wl_at]
  · rw [wl_ne _ _ h, wl_ne _ _ h, wl_ne _ _ h]
theorem wl_self (W : Wd) (j : Nat) : wl W j (W.2.1 j) = W := by
  refine Prod.ext rfl (Prod.ext (funext fun c => ?_) rfl)
  by_cases h : c = j
  · subst h; rw [wl_at]
  · rw [wl_ne _ _ h]
theorem stE_nl (γ : Gm) (o : Nat) (f : Nat → Int32) (v v' : LVt) : ∀ r, r < 10 → r ≠ 9 → stE γ o r f v = stE γ o r f v' :=
  r10 (P := fun r => r ≠ 9 → stE γ o r f v = stE γ o r f v') (fun _ => rfl) (fun _ => rfl) (fun _ => rfl) (fun _ => rfl) (fun _ => rfl) (fun _ => rfl) (fun _ => rfl) (fun _ => rfl) (fun _ => rfl) (fun h => absurd rfl h)
theorem ent_nl (γ : Gm) {i : Nat} (hi : i < 92) (h : i ≠ lA (lk i)) (f : Nat → Int32) (v v' : LVt) (hs : Int64) : ent γ i f v hs = ent γ i f v' hs := by
  unfold ent
  by_cases h1 : i < 4
  · rw [if_pos h1, if_pos h1]
    have h3 : i ≠ 3 := fun z => h (by rw [z]; rfl)
    rcases (by omega : i = 0 ∨ i = 1 ∨ i = 2) with rfl | rfl | rfl <;> rfl
  · rw [if_neg h1, if_neg h1]
    by_cases h2 : i < 24
    · rw [if_pos h2, if_pos h2]
      refine stE_nl γ _ f v v' _ (by omega) (fun z => h ?_)
      unfold lk lA so
      rw [if_neg h1, if_pos h2, if_pos (by omega), if_pos (by omega)]; omega
    · rw [if_neg h2, if_neg h2]
      by_cases h3 : i < 26
      · rw [if_pos h3, if_pos h3]
      · rw [if_neg h3, if_neg h3]
        by_cases h4 : i < 86
        · rw [if_pos h4, if_pos h4]
          refine stE_nl γ _ f v v' _ (by omega) (fun z => h ?_)
          unfold lk lA so
          rw [if_neg h1, if_neg h2, if_pos (by omega), if_neg (by omega)]; omega
        · rw [if_neg h4, if_neg h4]
theorem lA_inj {i j : Nat} (hi : i < 9) (hj : j < 9) (h : lA i = lA j) : i = j := by
  unfold lA so at h
  split at h <;> split at h <;> (try split at h) <;> (try split at h) <;> omega
theorem lk_lt {i : Nat} (hi : i < 92) (h : i = lA (lk i)) : lk i < 9 := by
  unfold lk
  split
  · omega
  · split
    · omega
    · omega
theorem up_l (γ : Gm) (W : Wd) {j : Nat} (hj : j < 9) (v' : LVt) (h : v'.2.2 = (W.2.1 j).2.2) : hset (rdw γ W) (γ.1 + lA j) (lsE v') = rdw γ (wl W j v') := by
  refine Prod.ext (funext fun a => ?_) rfl
  by_cases ha : a = γ.1 + lA j
  · rw [ha, hset_at, rd_List γ _ hj, wl_at]
  · rw [hset_off _ _ ha]
    refine rdw_off γ _ _ (fun i hi hai => ?_) ?_
    · by_cases hl : i = lA (lk i)
      · have hne : lk i ≠ j := fun z => ha (by rw [hai, hl, z])
        rw [wl_ne _ _ hne]; rfl
      · exact ent_nl γ hi hl _ _ _ _
    · unfold dynE
      show (match W.2.2.1 a with | some (.inl j) => _ | some (.inr v) => _ | none => _) = (match W.2.2.1 a with | some (.inl j) => _ | some (.inr v) => _ | none => _)
      split
      · rename_i j2 _
        by_cases h2 : j2 = j
        · subst h2; rw [wl_at, h]
        · rw [wl_ne _ _ h2]
      · rfl
      · rfl
theorem ent_wl (γ : Gm) (W : Wd) {j i : Nat} (v' : LVt) (hi : i < 92) (hne : i ≠ lA j) : ent γ i (W.1 (bk i)) (W.2.1 (lk i)) W.2.2.2.1 = ent γ i (W.1 (bk i)) ((wl W j v').2.1 (lk i)) W.2.2.2.1 := by
  by_cases hl : i = lA (lk i)
  · have hne : lk i ≠ j := fun z => hne (by rw [hl, z])
    rw [wl_ne _ _ hne]
  · exact ent_nl γ hi hl _ _ _ _
theorem dyn_inl (γ : Gm) (W : Wd) {a j : Nat} (h : W.2.2.1 a = some (.inl j)) : dynE γ W a = if (W.2.1 j).2.2.1 = a then some (rE γ 2 (W.2.1 j).2.2.2.1 (W.2.1 j).2.2.2.2) else none := by unfold dynE; rw [h]
theorem dyn_inr (γ : Gm) (W : Wd) {a : Nat} {v : Nat → Int32} (h : W.2.2.1 a = some (.inr v)) : dynE γ W a = some (.inr (7, [.int (v 0), .int (v 1), .int (v 2), .int (v 3), .int (v 4)])) := by unfold dynE; rw [h]
theorem dyn_no (γ : Gm) (W : Wd) {a : Nat} (h : W.2.2.1 a = none) : dynE γ W a = none := by unfold dynE; rw [h]
theorem rdw_hi (γ : Gm) (W : Wd) {a : Nat} (h : γ.1 + 92 ≤ a) : (rdw γ W).1 a = dynE γ W a := by
  show (if a < γ.1 then none else if a < γ.1 + 92 then _ else dynE γ W a) = _
  rw [if_neg (by omega), if_neg (by omega)]
theorem hnew_at (h : HP) (e : va_E) : (hnew h e).1 h.2 = some e := va_up_self _ _ _
theorem hnew_off (h : HP) {b : Nat} (e : va_E) (hb : b ≠ h.2) : (hnew h e).1 b = h.1 b := va_up_ne _ _ hb
