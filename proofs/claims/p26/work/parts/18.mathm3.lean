/-! the reference's row stays good -/
def VM (M : Nat → Int32) (cn : Nat) : Prop := M 218 = nI cn ∧ (1 ≤ cn ∧ cn ≤ 6) ∧ ∃ q : Nat, M 223 = nI q ∧ q ≤ 10 ∧ ∀ t, t < q → OV M t
theorem q_ord_v (cn : Nat) : ∀ (r i : Nat) (N : Nat → Int32), i + r ≤ 10 → N 223 = nI (i + r) → (∀ t, t < i + r → OV N t) → ∃ q : Nat, q_ord cn r i N 223 = nI q ∧ q ≤ i + r ∧ ∀ t, t < q → OV (q_ord cn r i N) t
  | 0, i, N, _, hq, ho => ⟨i, hq, Nat.le_refl _, ho⟩
  | r + 1, i, N, hb, hq, ho => by
    show ∃ q : Nat, (if q_due N cn i = 0 then q_ord cn r (i + 1) N else q_ord cn r i (q_drop (q_act N i) ((N 223).toNatClampNeg - 1) i)) 223 = nI q ∧ q ≤ i + (r + 1) ∧ ∀ t, t < q → OV (if q_due N cn i = 0 then q_ord cn r (i + 1) N else q_ord cn r i (q_drop (q_act N i) ((N 223).toNatClampNeg - 1) i)) t
    split
    · obtain ⟨q, h1, h2, h3⟩ := q_ord_v cn r (i + 1) N (by omega) (by rw [hq]; congr 1; omega) (fun t ht => ho t (by omega))
      exact ⟨q, h1, by omega, h3⟩
    · have hoi := ho i (by omega)
      rw [hq, nI_clamp (by omega), show i + (r + 1) - 1 = i + r by omega]
      obtain ⟨q, h1, h2, h3⟩ := q_ord_v cn r i (q_drop (q_act N i) (i + r) i) (by omega) (q_drop223 _ _ _ _ (by omega)) (OV_drop (by omega) (by omega) (fun t ht => OV_congr (by omega) (fun z h3 h4 => q_act_off N hoi (Or.inr (by omega)) (by omega)) (ho t (by omega))))
      exact ⟨q, h1, by omega, h3⟩
theorem q_second_eq {M : Nat → Int32} {cn : Nat} (hv : VM M cn) {j : Nat} (hj : 168 ≤ j) (h2 : j ≠ 222) (h4 : j ≠ 224) (h6 : j ≠ 226) : q_second M j = q_pre M j := by
  obtain ⟨hcn, ⟨h1, h6'⟩, q, hq, h10, ho⟩ := hv
  have e18 : (M 218).toNatClampNeg = cn := by rw [hcn]; exact nI_clamp (by omega)
  unfold q_second
  rw [e18]
  show upd (q_closesN (q_spillsN (q_slidesN (q_fallsN (q_pre M) (3 * cn)) 117) 40) (3 * cn)) 222 _ j = _
  rw [pk_un h2, q_closesN_off _ (by omega) (Or.inr hj) h4, q_spillsN_off _ (by omega) (by omega) h6, q_slidesN_off _ (by omega) (by omega), q_fallsN_off _ (by omega) hj h6]
theorem q_second_off {M : Nat → Int32} {cn : Nat} (hv : VM M cn) {j : Nat} (hj : 218 ≤ j) (h1 : j ≠ 219) (h2 : j ≠ 220) (h3 : j ≠ 221) (h4 : j ≠ 222) (h5 : j ≠ 223) (h6 : j ≠ 224) (h7 : j ≠ 226) : q_second M j = M j := by
  rw [q_second_eq hv (by omega) h4 h6 h7]
  obtain ⟨hcn, ⟨g1, g6⟩, q, hq, h10, ho⟩ := hv
  exact q_pre_off hcn hq g6 h10 ho (Or.inr hj) h3 h5 h1 h2
theorem VM_second {M : Nat → Int32} {cn : Nat} (hv : VM M cn) : VM (q_second M) cn := by
  have h18 := q_second_off hv (j := 218) (by omega) (by omega) (by omega) (by omega) (by omega) (by omega) (by omega) (by omega)
  have e23 := q_second_eq hv (j := 223) (by omega) (by omega) (by omega) (by omega)
  have eo : ∀ j, 168 ≤ j → j < 218 → q_second M j = q_pre M j := fun j a b => q_second_eq hv a (by omega) (by omega) (by omega)
  obtain ⟨hcn, ⟨g1, g6⟩, q, hq, h10, ho⟩ := hv
  refine ⟨h18.trans hcn, ⟨g1, g6⟩, ?_⟩
  obtain ⟨q2, k1, k2, k3⟩ := q_ord_v cn q 0 (q_place (q_speed M)) (by omega) (by rw [q_pp_off M (by decide) (by decide), hq, Nat.zero_add]) (fun t ht => OV_congr (by omega) (fun z h5 h6 => q_pp_off M (by omega) (by omega)) (ho t (by omega)))
  rw [← q_pre_eq hcn hq g6 h10] at k1 k3
  exact ⟨q2, e23.trans k1, by omega, fun t ht => OV_congr (by omega) eo (k3 t ht)⟩
theorem VM_secs {M : Nat → Int32} {cn : Nat} (hv : VM M cn) : ∀ n, VM (s_secs M n) cn
  | 0 => hv
  | n + 1 => VM_second (VM_secs hv n)
theorem secs_hi {M : Nat → Int32} {cn : Nat} (hv : VM M cn) {j : Nat} (hj : 233 ≤ j) : ∀ n, s_secs M n j = M j
  | 0 => rfl
  | n + 1 => (q_second_off (VM_secs hv n) (by omega) (by omega) (by omega) (by omega) (by omega) (by omega) (by omega) (by omega)).trans (secs_hi hv hj n)
theorem as_back {N M A : Nat → Int32} (h : ∀ j, 233 ≤ j → N j = M j) : s_as N (s_as A M 233) 233 = M := by
  funext j
  by_cases hj : j < 233
  · simp only [s_as]; rw [if_pos hj, if_pos hj]
  · simp only [s_as]; rw [if_neg hj, h j (by omega)]
theorem VM_empF {cn : Nat} : ∀ (f n : Nat) (M : Nat → Int32), VM M cn → VM (s_empF cn f n M).2 cn ∧ ∀ j, 233 ≤ j → (s_empF cn f n M).2 j = M j
  | 0, _, _, hv => ⟨hv, fun _ _ => rfl⟩
  | f + 1, n, M, hv => by
    show VM (if s_inW M cn ≤ 0 then (n, M) else s_empF cn f (n + 1) (q_second M)).2 cn ∧ ∀ j, 233 ≤ j → (if s_inW M cn ≤ 0 then (n, M) else s_empF cn f (n + 1) (q_second M)).2 j = M j
    split
    · exact ⟨hv, fun _ _ => rfl⟩
    · have := VM_empF f (n + 1) (q_second M) (VM_second hv)
      exact ⟨this.1, fun j hj => (this.2 j hj).trans (q_second_off hv (by omega) (by omega) (by omega) (by omega) (by omega) (by omega) (by omega) (by omega))⟩
theorem empF_n {cn : Nat} : ∀ (f n : Nat) (M : Nat → Int32), (s_empF cn f n M).1 ≤ n + f
  | 0, n, _ => Nat.le_refl n
  | f + 1, n, M => by
    show (if s_inW M cn ≤ 0 then (n, M) else s_empF cn f (n + 1) (q_second M)).1 ≤ n + (f + 1)
    split
    · exact Nat.le_add_right n _
    · have := empF_n (cn := cn) f (n + 1) (q_second M); omega
def q_scr (M : Nat → Int32) (c s : Nat) (u : Int32) : Nat → Int32 := upd (upd M (3 * c + s) (M (3 * c + s) - u)) 227 (upd M (3 * c + s) (M (3 * c + s) - u) 227 + u)
def s_min (a b : Int32) : Int32 := if a < b then a else b
theorem s_high1 (M : Nat → Int32) (s : Nat) : s_high M s 1 = 0 := by show (if _ then 0 else 0) = 0; split <;> rfl
theorem s_highP {M : Nat → Int32} {s n : Nat} (h : M (3 * n + s) ≤ M (3 * s_high M s n + s)) : s_high M s (n + 1) = s_high M s n := if_pos h
theorem s_highN {M : Nat → Int32} {s n : Nat} (h : ¬ M (3 * n + s) ≤ M (3 * s_high M s n + s)) : s_high M s (n + 1) = n := if_neg h
theorem s_allP {M : Nat → Int32} {s n : Nat} (h : M (3 * n + s) < M 232) : s_all M s (n + 1) = s_all M s n + 0 := congrArg (s_all M s n + ·) (if_pos h)
theorem s_allN {M : Nat → Int32} {s n : Nat} (h : ¬ M (3 * n + s) < M 232) : s_all M s (n + 1) = s_all M s n + 1 := congrArg (s_all M s n + ·) (if_neg h)
theorem s_nowP {M : Nat → Int32} {s n : Nat} (h : M (3 * n + s) < M 232) : s_now M s (n + 1) = 0 := if_pos h
theorem s_nowN {M : Nat → Int32} {s n : Nat} (h : ¬ M (3 * n + s) < M 232) : s_now M s (n + 1) = s_now M s n + 1 := if_neg h
theorem s_mostP {M : Nat → Int32} {s n : Nat} (h : s_now M s (n + 1) ≤ s_most M s n) : s_most M s (n + 1) = s_most M s n := if_pos h
theorem s_mostN {M : Nat → Int32} {s n : Nat} (h : ¬ s_now M s (n + 1) ≤ s_most M s n) : s_most M s (n + 1) = s_now M s (n + 1) := if_neg h
theorem s_steepP {M : Nat → Int32} {s n : Nat} (h : s_abs (q_by M n s) ≤ s_steep M s n) : s_steep M s (n + 1) = s_steep M s n := if_pos h
theorem s_steepN {M : Nat → Int32} {s n : Nat} (h : ¬ s_abs (q_by M n s) ≤ s_steep M s n) : s_steep M s (n + 1) = s_abs (q_by M n s) := if_neg h
theorem s_lackP {M : Nat → Int32} {c n : Nat} (h : M 232 ≤ M (3 * c + n)) : s_lackIn M c (n + 1) = s_lackIn M c n + nI 0 := congrArg (s_lackIn M c n + ·) (if_pos h)
theorem s_lackN {M : Nat → Int32} {c n : Nat} (h : ¬ M 232 ≤ M (3 * c + n)) : s_lackIn M c (n + 1) = s_lackIn M c n + (M 232 - M (3 * c + n)) := congrArg (s_lackIn M c n + ·) (if_neg h)
theorem s_cl3P {M : Nat → Int32} {a n : Nat} (h : M (120 + 8 * a + (5 + n)) = (-1001)) : s_cl3 M a (n + 1) = s_cl3 M a n + nI 0 := congrArg (s_cl3 M a n + ·) (if_pos h)
theorem s_cl3N {M : Nat → Int32} {a n : Nat} (h : ¬ M (120 + 8 * a + (5 + n)) = (-1001)) : s_cl3 M a (n + 1) = s_cl3 M a n + nI 1 := congrArg (s_cl3 M a n + ·) (if_neg h)
theorem v_q0 {p : Program} {l : Launch} {e : Env} {R : Room} {s : State} {m : MethodId} {args : Array Value} {below : List Frame} {meth : Method} {c : Code} {γ : Gm} {Q : State → Prop} {h : HP} {k j pc : Nat} {L : List (Option Value)} {st : List Value} (hh : ∀ Q0, Q = Q0 → V p l e R s m args below meth c γ Q0 h k j pc L st) : V p l e R s m args below meth c γ Q h k j pc L st := hh Q rfl
theorem s_eq6 {j : Nat} (h : j ≤ 6) (h2 : ¬ (¬ nI j < nI 0 ∧ ¬ nI 5 < nI j)) : j = 6 := by
  rcases Nat.lt_or_ge j 6 with z | z
  · exact absurd (nI_in0 (by omega) (by decide)) h2
  · omega
