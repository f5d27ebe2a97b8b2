/-! the world that the run begins with -/
def z0 : Nat → Int32 := fun _ => 0
def m1 : Nat → Int32 := upd (upd (upd (upd (upd z0 228 (nI 4)) 229 (nI 12)) 230 (nI 1)) 231 (nI 100)) 232 (nI 8)
def m0 : Nat → Int32 := q_couples m1 (nI 3)
def t0 : Nat → Int32 := upd z0 61 (-1001)
def w0 (γ : Gm) : Wd := (fun b => if b < 8 then m0 else if b = 8 then t0 else z0, fun _ => (nI 0, 0, γ.2.2.2 2, 0, fun _ => none), fun _ => none, 0, γ.1 + 89)
theorem w0_s (γ : Gm) {k : Nat} (hk : k < 8) : (w0 γ).1 k = m0 := if_pos hk
theorem vw_eq {n : Nat} {φ : Nat → Nat} {f g : Nat → Int32} (h : ∀ i, i < n → f (φ i) = g i) (h2 : ∀ i, n ≤ i → g i = 0) : vw n φ f = g := by
  funext i
  by_cases hi : i < n
  · rw [vw_at hi]; exact h i hi
  · simp only [vw]; rw [if_neg hi]; exact (h2 i (by omega)).symm
theorem e_set : vw 5 f_set m0 = (upd (upd (upd (upd (upd (fun _ => 0) 0 (nI 4)) 1 (nI 12)) 2 (nI 1)) 3 (nI 100)) 4 (nI 8)) := vw_eq (by decide +kernel) fun i hi => by rw [pk_un (by omega), pk_un (by omega), pk_un (by omega), pk_un (by omega), pk_un (by omega)]
theorem e_hts : vw 120 f_hts m0 = (fun _ => 0) := vw_eq (by decide +kernel) fun _ _ => rfl
theorem e_load : vw 6 f_load m0 = (fun _ => 0) := vw_eq (by decide +kernel) fun _ _ => rfl
theorem e_left : vw 6 f_left m0 = (fun _ => 0) := vw_eq (by decide +kernel) fun _ _ => rfl
theorem e_lev : vw 18 f_lev m0 = (fun _ => 0) := vw_eq (by decide +kernel) fun _ _ => rfl
theorem e_rest : vw 18 f_rest m0 = c_fill (fun _ => 0) (-1001) 18 := vw_eq (by decide +kernel) fun i hi => by simp only [c_fill]; rw [if_neg (by omega)]
theorem e_sc : m0 218 = nI 3 ∧ m0 219 = (-1) ∧ m0 220 = nI 0 ∧ m0 221 = nI 0 ∧ m0 222 = nI 0 ∧ m0 224 = nI 0 ∧ m0 225 = nI 0 ∧ m0 226 = nI 0 ∧ m0 227 = nI 0 := by decide +kernel
theorem z_nI : (0 : Int32) = nI 0 := nI_0.symm
theorem st_E (γ : Gm) (o : Nat) : ∀ r, r < 10 → stE γ o r m0 (nI 0, 0, γ.2.2.2 2, 0, fun _ => none) = (stB γ (γ.1 + o))[r]? := by
  obtain ⟨a1, a2, a3, a4, a5, a6, a7, a8, a9⟩ := e_sc
  refine r10 ?_ ?_ ?_ ?_ ?_ ?_ ?_ ?_ ?_ ?_
  · show some _ = some _
    rw [a5, a6, a7, a8, a9]
  · show some (iE γ 5 (vw 5 f_set m0)) = some _
    rw [e_set]
  · rfl
  · show some (iE γ 120 (vw 120 f_hts m0)) = some _
    rw [e_hts]
  · show some _ = some _
    rw [a1, a2, a3, a4]
  · show some (iE γ 6 (vw 6 f_load m0)) = some _
    rw [e_load]
  · show some (iE γ 6 (vw 6 f_left m0)) = some _
    rw [e_left]
  · show some (iE γ 18 (vw 18 f_lev m0)) = some _
    rw [e_lev]
  · show some (iE γ 18 (vw 18 f_rest m0)) = some _
    rw [e_rest]
  · show some (lsE (nI 0, 0, γ.2.2.2 2, 0, fun _ => none)) = some _
    unfold lsE
    rw [show nI 0 = (0 : Int32) from nI_0]
theorem tx_0 : vw 60 f_hts t0 = (fun _ => 0) := vw_eq (by decide +kernel) fun _ _ => rfl
theorem so_all {i : Nat} (h : i < 86) (h4 : 4 ≤ i) (h24 : i ≠ 24) (h25 : i ≠ 25) : ∃ k r, k < 8 ∧ r < 10 ∧ i = so k + r := by
  by_cases h1 : i < 24
  · exact ⟨(i - 4) / 10, (i - 4) % 10, by omega, by omega, by unfold so; rw [if_pos (by omega)]; omega⟩
  · exact ⟨(i - 6) / 10, (i - 6) % 10, by omega, by omega, by unfold so; rw [if_neg (by omega)]; omega⟩
theorem bt_st (γ : Gm) (b : Nat) : ∀ k, k < 8 → ∀ r, r < 10 → (btB γ b)[so k + r]? = (stB γ (b + so k))[r]? := by
  intro k hk
  rcases (by omega : k = 0 ∨ k = 1 ∨ k = 2 ∨ k = 3 ∨ k = 4 ∨ k = 5 ∨ k = 6 ∨ k = 7) with rfl | rfl | rfl | rfl | rfl | rfl | rfl | rfl <;>
  · exact r10 rfl rfl rfl rfl rfl rfl rfl rfl rfl rfl
theorem bt_E (γ : Gm) : ∀ i, i < 86 → (btB γ γ.1)[i]? = ent γ i ((w0 γ).1 (bk i)) ((w0 γ).2.1 (lk i)) 0 := by
  intro i hi
  by_cases h4 : i < 4
  · rcases (by omega : i = 0 ∨ i = 1 ∨ i = 2 ∨ i = 3) with rfl | rfl | rfl | rfl
    · rfl
    · show some _ = some _
      rw [show (w0 γ).1 (bk 1) = t0 from rfl, show t0 60 = nI 0 from by decide +kernel, show t0 61 = (-1001) from by decide +kernel, show t0 62 = nI 0 from by decide +kernel]
    · show some _ = some (iE γ 60 (vw 60 f_hts t0))
      rw [tx_0]
    · show some _ = some (lsE (nI 0, 0, γ.2.2.2 2, 0, fun _ => none))
      unfold lsE
      rw [show nI 0 = (0 : Int32) from nI_0]
  · by_cases h24 : i = 24
    · subst h24
      show some _ = some (Sum.inr (1, [Value.ref (γ.1 + 25), .int (z0 0), .int (z0 1)]))
      rw [show z0 0 = nI 0 from z_nI, show z0 1 = nI 0 from z_nI]
    · by_cases h25 : i = 25
      · subst h25
        show some (rE γ 1 6 _) = some (rE γ 1 6 _)
        refine congrArg (fun f => some (rE γ 1 6 f)) (funext fun q => ?_)
        show some (γ.1 + 24 + (2 + 10 * q)) = some (γ.1 + so (q + 2))
        unfold so
        rw [if_neg (by omega)]
        congr 1
        omega
      · obtain ⟨k, r, hk, hr, rfl⟩ := so_all hi (by omega) h24 h25
        rw [so_ent γ hk hr, so_bk hk hr, w0_s γ hk, bt_st γ γ.1 k hk r hr]
        exact (st_E γ (so k) r hr).symm
theorem pkh_z : pkh z0 = (fun _ => 0) := by
  funext c
  simp only [pkh, pk3, z0]
  split
  · decide
  · rfl
theorem mk_le {γ : Gm} {h : HP} : (rdw γ (w0 γ)).2 = (reg h γ.1 (((btB γ γ.1 ++ [iE γ 40 (fun _ => 0)]) ++ [iE γ 64 (fun _ => 0)]) ++ [iE γ 64 (fun _ => 0)])).2 ∧ ∀ a x, (rdw γ (w0 γ)).1 a = some x → (reg h γ.1 (((btB γ γ.1 ++ [iE γ 40 (fun _ => 0)]) ++ [iE γ 64 (fun _ => 0)]) ++ [iE γ 64 (fun _ => 0)])).1 a = some x := by
  refine ⟨rfl, fun a x hx => ?_⟩
  by_cases h1 : a < γ.1
  · have hx : (if a < γ.1 then none else _) = some x := hx
    rw [if_pos h1] at hx
    exact absurd hx (by simp)
  · by_cases h2 : a < γ.1 + 92
    · obtain ⟨i, hi, rfl⟩ : ∃ i, i < 92 ∧ a = γ.1 + i := ⟨a - γ.1, by omega, by omega⟩
      rw [rdw_at γ _ hi] at hx
      refine reg_at h γ.1 _ i ?_
      have hl : (btB γ γ.1).length = 86 := rfl
      by_cases h3 : i < 86
      · rw [List.getElem?_append_left (by rw [List.length_append, List.length_append, hl]; omega), List.getElem?_append_left (by rw [List.length_append, hl]; omega), List.getElem?_append_left (by rw [hl]; omega), bt_E γ i h3]
        exact hx
      · rw [← hx]
        have h4 : i = 86 ∨ i = 87 ∨ i = 88 ∨ (89 ≤ i) := by omega
        rcases h4 with rfl | rfl | rfl | h4
        · show _ = some (iE γ 40 (pkh z0))
          rw [pkh_z]
          rfl
        · show _ = some (iE γ 64 (vw 62 f_w z0))
          rw [vw_eq (g := fun _ => 0) (fun _ _ => rfl) (fun _ _ => rfl)]
          rfl
        · rfl
        · exfalso
          rcases (by omega : i = 89 ∨ i = 90 ∨ i = 91) with rfl | rfl | rfl
          · have hx : none = some x := hx
            exact absurd hx (by simp)
          · have hx : none = some x := hx
            exact absurd hx (by simp)
          · have hx : none = some x := hx
            exact absurd hx (by simp)
    · rw [rdw_hi γ _ (by omega), dyn_no γ _ (by rfl)] at hx
      exact absurd hx (by simp)
theorem ci_0 (γ : Gm) : CI γ (w0 γ) 0 m0 z0 z0 0 0 3 0 0 := by
  obtain ⟨a1, a2, a3, a4, a5, a6, a7, a8, a9⟩ := e_sc
  have hB : ∀ j, LB γ (w0 γ) j 0 (fun _ => none) := fun j => ⟨nI 0, rfl, rfl⟩
  have hQ : ∀ j, LQ γ (w0 γ) j := fun j => ⟨0, _, hB j, fun t z => absurd z (by omega)⟩
  have e60 : (w0 γ).1 8 60 = nI 0 := z_nI
  have hb : HB m0 (3600 * (0 : Nat)) := fun i hi => by
    have e : m0 i = 0 := (by decide +kernel : ∀ i, i < 120 → m0 i = 0) i hi
    rw [e]; decide
  exact ⟨rfl, ⟨⟨⟨a1, by decide, by decide⟩, ⟨by decide +kernel, by decide, fun t z => absurd z (by omega)⟩, TP_clr 3 fun i a b => cou_in a b, hb, (by decide +kernel : ∀ j, j < 5 → (lstS j).toInt ≤ (m0 (228 + j)).toInt ∧ (m0 (228 + j)).toInt ≤ (mstS j).toInt)⟩, a5, by decide⟩, ⟨_, hB 0, fun t z => absurd z (by omega)⟩, hQ 1, hQ 8, ⟨0, z_nI, z_nI, Nat.le_refl _, Nat.le_refl _, by decide, fun j z => absurd z (by omega), fun k _ => hQ _⟩, ⟨e60, by decide, fun i z => pk_un (by omega), fun i z => absurd z (by omega)⟩, Nat.le_refl _⟩
