/-! the lists of orders: what stands in a list and where its row lies -/
def LW (γ : Gm) (W : Wd) (j : Nat) : Prop := ((W.2.1 j).2.2.2.1 = 0 ∧ (W.2.1 j).2.1 = 0 ∧ (W.2.1 j).2.2.1 = γ.2.2.2 2) ∨ ((W.2.1 j).2.1 ≤ (W.2.1 j).2.2.2.1 ∧ 0 < (W.2.1 j).2.2.2.1 ∧ (W.2.1 j).2.2.2.1 ≤ 15 ∧ γ.1 + 92 ≤ (W.2.1 j).2.2.1 ∧ W.2.2.1 (W.2.1 j).2.2.1 = some (.inl j))
theorem wl_at (W : Wd) (j : Nat) (v : LVt) : (wl W j v).2.1 j = v := if_pos rfl
theorem wl_ne (W : Wd) {i j : Nat} (v : LVt) (h : i ≠ j) : (wl W j v).2.1 i = W.2.1 i := if_neg h
theorem lA_lt {j : Nat} (hj : j < 9) : lA j < 92 := by unfold lA so; split <;> (try split) <;> omega
theorem wl_wl (W : Wd) (j : Nat) (v u : LVt) : wl (wl W j v) j u = wl W j u := by
  refine Prod.ext rfl (Prod.ext (funext fun c => ?_) rfl)
  by_cases h : c = j
  · subst h; rw [wl_at, wl_at]
  · rw [wl_ne _ _ h, wl_ne _ _ h, wl_ne _ _ h]
theorem wl_self (W : Wd) (j : Nat) : wl W j (W.2.1 j) = W := by
  refine Prod.ext rfl (Prod.ext (funext fun c => ?_) rfl)
  by_cases h : c = j
  · subst h; rw [wl_at]
  · rw [wl_ne _ _ h]
