/-! which numbers of a state's row lie in which of its ten cells -/
def domB (r i : Nat) : Bool := match r with
  | 0 => decide (i = 222 ∨ (224 ≤ i ∧ i ≤ 227))
  | 1 => decide (228 ≤ i ∧ i < 233)
  | 3 => decide (i < 120)
  | 4 => decide (218 ≤ i ∧ i ≤ 221)
  | 5 => decide (120 ≤ i ∧ i < 168 ∧ i % 8 = 0)
  | 6 => decide (120 ≤ i ∧ i < 168 ∧ i % 8 = 1)
  | 7 => decide (120 ≤ i ∧ i < 168 ∧ 2 ≤ i % 8 ∧ i % 8 ≤ 4)
  | 8 => decide (120 ≤ i ∧ i < 168 ∧ 5 ≤ i % 8)
  | _ => false
theorem vw_congr {n : Nat} {φ : Nat → Nat} {f f' : Nat → Int32} (h : ∀ a, a < n → f (φ a) = f' (φ a)) : vw n φ f = vw n φ f' := by
  funext a
  by_cases ha : a < n
  · rw [vw_at ha, vw_at ha, h a ha]
  · simp only [vw]; rw [if_neg ha, if_neg ha]
theorem stE_ext (γ : Gm) (o : Nat) (v : LVt) {f f' : Nat → Int32} : ∀ r, r < 10 → (∀ i, domB r i = true → f i = f' i) → stE γ o r f v = stE γ o r f' v := by
  refine r10 (P := fun r => (∀ i, domB r i = true → f i = f' i) → stE γ o r f v = stE γ o r f' v) ?_ ?_ ?_ ?_ ?_ ?_ ?_ ?_ ?_ ?_
  · intro h
    show some _ = some _
    rw [h 222 (by decide), h 224 (by decide), h 225 (by decide), h 226 (by decide), h 227 (by decide)]
  · intro h
    show some (iE γ 5 _) = some (iE γ 5 _)
    rw [vw_congr (f := f) (f' := f') fun a ha => h _ (decide_eq_true (by unfold f_set; omega))]
  · intro _; rfl
  · intro h
    show some (iE γ 120 _) = some (iE γ 120 _)
    rw [vw_congr (f := f) (f' := f') fun a ha => h _ (decide_eq_true (by unfold f_hts; omega))]
  · intro h
    show some _ = some _
    rw [h 218 (by decide), h 219 (by decide), h 220 (by decide), h 221 (by decide)]
  · intro h
    show some (iE γ 6 _) = some (iE γ 6 _)
    rw [vw_congr (f := f) (f' := f') fun a ha => h _ (decide_eq_true (by unfold f_load; omega))]
  · intro h
    show some (iE γ 6 _) = some (iE γ 6 _)
    rw [vw_congr (f := f) (f' := f') fun a ha => h _ (decide_eq_true (by unfold f_left; omega))]
  · intro h
    show some (iE γ 18 _) = some (iE γ 18 _)
    rw [vw_congr (f := f) (f' := f') fun a ha => h _ (decide_eq_true (by unfold f_lev; omega))]
  · intro h
    show some (iE γ 18 _) = some (iE γ 18 _)
    rw [vw_congr (f := f) (f' := f') fun a ha => h _ (decide_eq_true (by unfold f_rest; omega))]
  · intro _; rfl
theorem domB_lt : ∀ r, r < 10 → ∀ i, domB r i = true → i < 233 ∧ ¬ (168 ≤ i ∧ i < 218) ∧ i ≠ 223 := by
  refine r10 (P := fun r => ∀ i, domB r i = true → i < 233 ∧ ¬ (168 ≤ i ∧ i < 218) ∧ i ≠ 223) ?_ ?_ ?_ ?_ ?_ ?_ ?_ ?_ ?_ ?_ <;> intro i h <;> first | (have h := of_decide_eq_true h; omega) | exact absurd (show false = true from h) Bool.false_ne_true
theorem rdw_ext (γ : Gm) (w : Wd) {g g' : Nat → Int32} {k : Nat} (hk : k < 8) (h : ∀ i, i < 233 → ¬ (168 ≤ i ∧ i < 218) → i ≠ 223 → g i = g' i) : rdw γ (wset w k g) = rdw γ (wset w k g') := by
  refine Prod.ext (funext fun a => ?_) rfl
  refine rdw_off γ _ _ (fun i hi hai => ?_) rfl
  by_cases hb : bk i = k
  · obtain ⟨r, hr1, rfl⟩ := bk_so hk hi hb
    rw [so_ent γ hk hr1, so_ent γ hk hr1, so_bk hk hr1, ws_same, ws_same]
    exact stE_ext γ _ _ r hr1 (fun i hi => by obtain ⟨h1, h2, h3⟩ := domB_lt r hr1 i hi; exact h i h1 h2 h3)
  · rw [ws_ne _ _ hb, ws_ne _ _ hb]; rfl
/-- the numbers of one cell taken from another row -/
def pt (r : Nat) (A g : Nat → Int32) : Nat → Int32 := fun i => if domB r i = true then A i else g i
theorem domB_dis {r0 : Nat} (h0 : r0 = 1 ∨ r0 = 3 ∨ r0 = 5 ∨ r0 = 6 ∨ r0 = 7 ∨ r0 = 8) : ∀ r, r < 10 → r ≠ r0 → ∀ i, domB r i = true → ¬ domB r0 i = true := by
  rcases h0 with rfl | rfl | rfl | rfl | rfl | rfl <;>
  · refine r10 ?_ ?_ ?_ ?_ ?_ ?_ ?_ ?_ ?_ ?_ <;> intro hne i h h2 <;> first | exact absurd rfl hne | (have h := of_decide_eq_true h; have h2 := of_decide_eq_true h2; omega) | exact absurd (show false = true from h) Bool.false_ne_true
theorem up_pt (γ : Gm) (w : Wd) (g A : Nat → Int32) {k : Nat} (hk : k < 8) {r0 : Nat} (h0 : r0 = 1 ∨ r0 = 3 ∨ r0 = 5 ∨ r0 = 6 ∨ r0 = 7 ∨ r0 = 8) {e : va_E} (he : stE γ (so k) r0 A (w.2.1 k) = some e) : hset (rdw γ (wset w k g)) (γ.1 + (so k + r0)) e = rdw γ (wset w k (pt r0 A g)) := by
  have h9 : r0 < 10 := by omega
  refine set_st γ w g (pt r0 A g) hk r0 h9 e ?_ (fun r hr hne => ?_)
  · rw [← he]
    exact stE_ext γ _ _ r0 h9 (fun i hi => if_pos hi)
  · exact stE_ext γ _ _ r hr (fun i hi => if_neg (domB_dis h0 r hr hne i hi))
theorem up_pset (γ : Gm) (w : Wd) (g A : Nat → Int32) {k : Nat} (hk : k < 8) : hset (rdw γ (wset w k g)) (γ.1 + so k + 1) (iE γ 5 (vw 5 f_set A)) = rdw γ (wset w k (pt 1 A g)) := up_pt γ w g A hk (Or.inl rfl) rfl
theorem up_phts (γ : Gm) (w : Wd) (g A : Nat → Int32) {k : Nat} (hk : k < 8) : hset (rdw γ (wset w k g)) (γ.1 + so k + 3) (iE γ 120 (vw 120 f_hts A)) = rdw γ (wset w k (pt 3 A g)) := up_pt γ w g A hk (r0 := 3) (by decide) rfl
theorem up_pload (γ : Gm) (w : Wd) (g A : Nat → Int32) {k : Nat} (hk : k < 8) : hset (rdw γ (wset w k g)) (γ.1 + so k + 5) (iE γ 6 (vw 6 f_load A)) = rdw γ (wset w k (pt 5 A g)) := up_pt γ w g A hk (r0 := 5) (by decide) rfl
theorem up_pleft (γ : Gm) (w : Wd) (g A : Nat → Int32) {k : Nat} (hk : k < 8) : hset (rdw γ (wset w k g)) (γ.1 + so k + 6) (iE γ 6 (vw 6 f_left A)) = rdw γ (wset w k (pt 6 A g)) := up_pt γ w g A hk (r0 := 6) (by decide) rfl
theorem up_plev (γ : Gm) (w : Wd) (g A : Nat → Int32) {k : Nat} (hk : k < 8) : hset (rdw γ (wset w k g)) (γ.1 + so k + 7) (iE γ 18 (vw 18 f_lev A)) = rdw γ (wset w k (pt 7 A g)) := up_pt γ w g A hk (r0 := 7) (by decide) rfl
theorem up_prest (γ : Gm) (w : Wd) (g A : Nat → Int32) {k : Nat} (hk : k < 8) : hset (rdw γ (wset w k g)) (γ.1 + so k + 8) (iE γ 18 (vw 18 f_rest A)) = rdw γ (wset w k (pt 8 A g)) := up_pt γ w g A hk (r0 := 8) (by decide) rfl
def c_fill (f : Nat → Int32) (x : Int32) (j : Nat) : Nat → Int32 := fun i => if i < j then x else f i
theorem c_fill0 (f : Nat → Int32) (x : Int32) : c_fill f x 0 = f := rfl
theorem c_fillS (f : Nat → Int32) (x : Int32) (j : Nat) : upd (c_fill f x j) j x = c_fill f x (j + 1) := by
  funext i
  by_cases h : i = j
  · subst h; rw [pk_us]; simp only [c_fill]; rw [if_pos (by omega)]
  · rw [pk_un h]; simp only [c_fill]
    by_cases h2 : i < j
    · rw [if_pos h2, if_pos (by omega)]
    · rw [if_neg h2, if_neg (by omega)]
theorem hset_same {h : HP} {a : Nat} {e : va_E} (he : h.1 a = some e) : hset h a e = h := by
  refine Prod.ext (funext fun b => ?_) rfl
  by_cases hb : b = a
  · rw [hb, hset_at, he]
  · rw [hset_off _ _ hb]
theorem hset_hset (h : HP) (a : Nat) (e e2 : va_E) : hset (hset h a e) a e2 = hset h a e2 := by
  refine Prod.ext (funext fun b => ?_) rfl
  by_cases hb : b = a
  · rw [hb, hset_at, hset_at]
  · rw [hset_off _ _ hb, hset_off _ _ hb, hset_off _ _ hb]
theorem fill_vw (n : Nat) (φ : Nat → Nat) (f : Nat → Int32) (x : Int32) : c_fill (vw n φ f) x n = vw n φ (fun _ => x) := by
  funext i
  by_cases h : i < n
  · rw [vw_at h]; simp only [c_fill]; rw [if_pos h]
  · simp only [c_fill, vw]; rw [if_neg h, if_neg h, if_neg h]
theorem cpy_vw (n : Nat) (φ : Nat → Nat) (f g : Nat → Int32) : va_cpy (vw n φ f) (vw n φ g) 0 0 n = vw n φ f := by
  funext i
  by_cases h : i < n
  · simp only [va_cpy]; rw [if_pos ⟨Nat.zero_le _, by omega⟩, Nat.sub_zero, Nat.zero_add]
  · simp only [va_cpy, vw]; rw [if_neg (by omega), if_neg h, if_neg h]
