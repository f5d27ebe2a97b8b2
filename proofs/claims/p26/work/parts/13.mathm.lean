/-! the reference's own steps, as functions of its row of numbers -/
theorem in_nat {x : Int32} {N : Nat} (hN : N < 2 ^ 31) (h : ¬ x < nI 0 ∧ ¬ nI N < x) : ∃ j : Nat, j ≤ N ∧ x = nI j := by
  obtain ⟨j, hj, e⟩ := nI_of (x := x) (by rw [← nI_0]; exact h.1)
  refine ⟨j, ?_, e⟩
  rw [e] at h
  exact Nat.not_lt.mp fun z => h.2 ((nI_ltI hN hj).mpr z)
theorem nI_in0 {j N : Nat} (hj : j ≤ N) (hN : N < 2 ^ 31) : ¬ nI j < nI 0 ∧ ¬ nI N < nI j := ⟨fun z => nI_pos (n := j) (by omega) (by rw [← nI_0]; exact z), nI_nlt hj hN⟩
def q_cl (i : Nat) : Int32 := if (i - 120) % 8 < 5 then nI 0 else (-1001)
def q_clrN (M : Nat → Int32) (n : Nat) : Nat → Int32 := fun i => if 120 ≤ i ∧ i < 120 + n then q_cl i else M i
theorem q_clr0 (M : Nat → Int32) : q_clrN M 0 = M := by funext i; simp only [q_clrN]; rw [if_neg (by omega)]
theorem q_clrS (M : Nat → Int32) (n : Nat) {x : Int32} (hx : x = q_cl (120 + n)) : upd (q_clrN M n) (120 + n) x = q_clrN M (n + 1) := by
  funext i
  by_cases h : i = 120 + n
  · subst h; simp only [upd, q_clrN, if_true]; rw [if_pos (by omega)]; exact hx
  · simp only [upd, q_clrN]
    rw [if_neg h]
    by_cases h2 : 120 ≤ i ∧ i < 120 + n
    · rw [if_pos h2, if_pos (by omega)]
    · rw [if_neg h2, if_neg (by omega)]
def q_couples (M : Nat → Int32) (x : Int32) : Nat → Int32 := upd (upd (upd (upd (q_clrN M 48) 218 x) 219 (-1)) 220 (nI 0)) 221 (nI 0)
def q_moves (M : Nat → Int32) (w d : Nat) (x : Int32) : Nat → Int32 := if x ≤ 0 then (if M (120 + 8 * w + (2 + d)) ≤ 0 then M else upd M (120 + 8 * w + (5 + d)) (M 230)) else upd (upd M (120 + 8 * w + (2 + d)) x) (120 + 8 * w + (5 + d)) (-1001)
def q_dropN (M : Nat → Int32) (q i k : Nat) : Nat → Int32 := fun j => if 168 + 5 * i ≤ j ∧ j < k then upd M 223 (nI q) (j + 5) else upd M 223 (nI q) j
def q_drop (M : Nat → Int32) (q i : Nat) : Nat → Int32 := q_dropN M q i (168 + 5 * q)
theorem q_drop0 (M : Nat → Int32) (q i : Nat) : q_dropN M q i (168 + 5 * i) = upd M 223 (nI q) := by
  funext j; simp only [q_dropN]; rw [if_neg (by omega)]
theorem q_dropS (M : Nat → Int32) (q i k : Nat) (hk : 168 + 5 * i ≤ k) : upd (q_dropN M q i k) k (q_dropN M q i k (k + 5)) = q_dropN M q i (k + 1) := by
  have e : q_dropN M q i k (k + 5) = upd M 223 (nI q) (k + 5) := by simp only [q_dropN]; rw [if_neg (by omega)]
  rw [e]
  funext j
  by_cases h : j = k
  · subst h; simp only [q_dropN]; rw [if_pos (by omega), pk_us]
  · rw [pk_un h]
    simp only [q_dropN]
    by_cases h2 : 168 + 5 * i ≤ j ∧ j < k
    · rw [if_pos h2, if_pos (by omega)]
    · rw [if_neg h2, if_neg (by omega)]
theorem q_drop223 (M : Nat → Int32) (q i k : Nat) (hk : k ≤ 218) : q_dropN M q i k 223 = nI q := by
  simp only [q_dropN]; rw [if_neg (by omega), pk_us]
def q_due (M : Nat → Int32) (cn i : Nat) : Int32 := if M (168 + 5 * i + 1) = nI 2 then bi (¬ M 219 < M (168 + 5 * i)) else bi ((¬ M (168 + 5 * i + 2) < nI 0 ∧ ¬ nI (cn - 1) < M (168 + 5 * i + 2)) ∧ ¬ (M 219 - nI 4 * M (168 + 5 * i + 2)) < M (168 + 5 * i))
def q_u (M : Nat → Int32) (w d : Nat) : Int32 := if M (120 + 8 * w + (2 + d)) < M (120 + 8 * w + 0) then M (120 + 8 * w + (2 + d)) else M (120 + 8 * w + 0)
def q_f1 (M : Nat → Int32) (w d : Nat) : Nat → Int32 := upd M (120 + 8 * w + 0) (M (120 + 8 * w + 0) - q_u M w d)
def q_f2 (M : Nat → Int32) (w d : Nat) : Nat → Int32 := upd (q_f1 M w d) (120 + 8 * w + 1) (q_f1 M w d (120 + 8 * w + 1) + q_u M w d)
def q_fc (M : Nat → Int32) (w d : Nat) : Int32 := q_f2 M w d 219 - nI (4 * w)
def q_falls (M : Nat → Int32) (w d : Nat) : Nat → Int32 := if ¬ q_fc M w d < nI 0 ∧ ¬ nI 39 < q_fc M w d then upd (q_f2 M w d) (3 * (q_fc M w d).toNatClampNeg + d) (q_f2 M w d (3 * (q_fc M w d).toNatClampNeg + d) + q_u M w d) else upd (q_f2 M w d) 226 (q_f2 M w d 226 + q_u M w d)
def q_by (M : Nat → Int32) (c s : Nat) : Int32 := M (3 * c + s) - M (3 * c + 3 + s)
def q_unit (x z : Int32) : Int32 := if x ≤ z then (if -x ≤ z then nI 0 else (-1)) else nI 1
def q_s1 (M : Nat → Int32) (c s : Nat) (u : Int32) : Nat → Int32 := upd M (3 * c + s) (M (3 * c + s) - u)
def q_slides (M : Nat → Int32) (c s : Nat) : Nat → Int32 := upd (q_s1 M c s (q_unit (q_by M c s) (M 228))) (3 * c + 3 + s) (q_s1 M c s (q_unit (q_by M c s) (M 228)) (3 * c + 3 + s) + q_unit (q_by M c s) (M 228))
def q_over (M : Nat → Int32) (c s : Nat) : Int32 := M (3 * c + s) - M 229
def q_pos (x : Int32) : Int32 := if x ≤ 0 then nI 0 else x
def q_p1 (M : Nat → Int32) (c s : Nat) : Nat → Int32 := upd M (3 * c + s) (M (3 * c + s) - q_pos (q_over M c s))
def q_spills (M : Nat → Int32) (c s : Nat) : Nat → Int32 := upd (q_p1 M c s) 226 (q_p1 M c s 226 + q_pos (q_over M c s))
def q_jam (M : Nat → Int32) (w : Nat) : Int32 := if M (120 + 8 * w + 0) ≤ M 231 then nI 0 else nI 1
def q_c1 (M : Nat → Int32) (w d : Nat) : Nat → Int32 := upd (upd M (120 + 8 * w + (2 + d)) (q_jam M w)) (120 + 8 * w + (5 + d)) (-1001)
def q_closes (M : Nat → Int32) (w d : Nat) : Nat → Int32 := if M (120 + 8 * w + (5 + d)) ≤ 0 then (if M (120 + 8 * w + (5 + d)) = 0 then upd (q_c1 M w d) 224 (q_c1 M w d 224 + q_jam M w) else M) else upd M (120 + 8 * w + (5 + d)) (M (120 + 8 * w + (5 + d)) - nI 1)
/-- a step for each number below n -/
def q_it (f : (Nat → Int32) → Nat → Nat → Int32) (M : Nat → Int32) : Nat → Nat → Int32
  | 0 => M
  | n + 1 => f (q_it f M n) n
def q_fallsN (M : Nat → Int32) (n : Nat) : Nat → Int32 := q_it (fun M k => q_falls M (k / 3) (k % 3)) M n
def q_slidesN (M : Nat → Int32) (n : Nat) : Nat → Int32 := q_it (fun M k => q_slides M (k / 3) (k % 3)) M n
def q_spillsN (M : Nat → Int32) (n : Nat) : Nat → Int32 := q_it (fun M c => q_spills (q_spills M c 0) c 2) M n
def q_closesN (M : Nat → Int32) (n : Nat) : Nat → Int32 := q_it (fun M k => q_closes M (k / 3) (k % 3)) M n
def q_act (M : Nat → Int32) (i : Nat) : Nat → Int32 := if M (168 + 5 * i + 1) = nI 2 then upd M 221 (M (168 + 5 * i + 4)) else q_moves M (M (168 + 5 * i + 2)).toNatClampNeg (M (168 + 5 * i + 3)).toNatClampNeg (if M (168 + 5 * i + 1) = 0 then M (168 + 5 * i + 4) else nI 0)
def q_ord (cn : Nat) : Nat → Nat → (Nat → Int32) → (Nat → Int32)
  | 0, _, M => M
  | n + 1, i, M => if q_due M cn i = 0 then q_ord cn n (i + 1) M else q_ord cn n i (q_drop (q_act M i) ((M 223).toNatClampNeg - 1) i)
def q_speed (M : Nat → Int32) : Nat → Int32 := upd M 220 (M 220 + (if M 221 ≤ M 220 then (if M 220 ≤ M 221 then nI 0 else (-1)) else nI 1))
def q_place (M : Nat → Int32) : Nat → Int32 := upd M 219 (if nI 99 < M 219 + M 220 then nI 99 else M 219 + M 220)
def q_orders (M : Nat → Int32) : Nat → Int32 := q_ord (M 218).toNatClampNeg (M 223).toNatClampNeg 0 M
def q_pre (M : Nat → Int32) : Nat → Int32 := q_orders (q_place (q_speed M))
def q_second (M : Nat → Int32) : Nat → Int32 :=
  let N := q_closesN (q_spillsN (q_slidesN (q_fallsN (q_pre M) (3 * (M 218).toNatClampNeg)) 117) 40) (3 * (M 218).toNatClampNeg)
  upd N 222 (N 222 + nI 1)
/-! what stays -/
theorem q_it_keep {f : (Nat → Int32) → Nat → Nat → Int32} {M : Nat → Int32} {j N : Nat} (h : ∀ M k, k < N → f M k j = M j) : ∀ n, n ≤ N → q_it f M n j = M j
  | 0, _ => rfl
  | n + 1, hn => (h _ n (by omega)).trans (q_it_keep h n (by omega))
theorem q_moves_off (M : Nat → Int32) {w d j : Nat} (x : Int32) (hw : w < 6) (hd : d < 3) (hj : j < 120 ∨ 168 ≤ j) : q_moves M w d x j = M j := by
  unfold q_moves
  split
  · split
    · rfl
    · rw [pk_un (by omega)]
  · rw [pk_un (by omega), pk_un (by omega)]
theorem q_falls_off (M : Nat → Int32) {w d j : Nat} (hw : w < 6) (hd : d < 3) (hj : 168 ≤ j) (hj2 : j ≠ 226) : q_falls M w d j = M j := by
  have e2 : q_f2 M w d j = M j := by unfold q_f2 q_f1; rw [pk_un (by omega), pk_un (by omega)]
  unfold q_falls
  split
  · rename_i h
    obtain ⟨c, hc, e⟩ := in_nat (by decide) h
    rw [e, nI_clamp (by omega), pk_un (by omega), e2]
  · rw [pk_un hj2, e2]
theorem q_slides_off (M : Nat → Int32) {c s j : Nat} (hc : c < 39) (hs : s < 3) (hj : 120 ≤ j) : q_slides M c s j = M j := by
  unfold q_slides q_s1
  rw [pk_un (by omega), pk_un (by omega)]
theorem q_spills_off (M : Nat → Int32) {c s j : Nat} (hc : c < 40) (hs : s < 3) (hj : 120 ≤ j) (hj2 : j ≠ 226) : q_spills M c s j = M j := by
  unfold q_spills q_p1
  rw [pk_un hj2, pk_un (by omega)]
theorem q_closes_off (M : Nat → Int32) {w d j : Nat} (hw : w < 6) (hd : d < 3) (hj : j < 120 ∨ 168 ≤ j) (hj2 : j ≠ 224) : q_closes M w d j = M j := by
  unfold q_closes q_c1
  split
  · split
    · rw [pk_un hj2, pk_un (by omega), pk_un (by omega)]
    · rfl
  · rw [pk_un (by omega)]
theorem q_fallsN_off (M : Nat → Int32) {n j : Nat} (hn : n ≤ 18) (hj : 168 ≤ j) (hj2 : j ≠ 226) : q_fallsN M n j = M j := q_it_keep (N := 18) (fun M k hk => q_falls_off M (by omega) (by omega) hj hj2) n hn
theorem q_slidesN_off (M : Nat → Int32) {n j : Nat} (hn : n ≤ 117) (hj : 120 ≤ j) : q_slidesN M n j = M j := q_it_keep (N := 117) (fun M k hk => q_slides_off M (by omega) (by omega) hj) n hn
theorem q_spillsN_off (M : Nat → Int32) {n j : Nat} (hn : n ≤ 40) (hj : 120 ≤ j) (hj2 : j ≠ 226) : q_spillsN M n j = M j := q_it_keep (N := 40) (fun M k hk => by
  show q_spills (q_spills M k 0) k 2 j = M j
  rw [q_spills_off _ hk (by decide) hj hj2, q_spills_off _ hk (by decide) hj hj2]) n hn
theorem q_closesN_off (M : Nat → Int32) {n j : Nat} (hn : n ≤ 18) (hj : j < 120 ∨ 168 ≤ j) (hj2 : j ≠ 224) : q_closesN M n j = M j := q_it_keep (N := 18) (fun M k hk => q_closes_off M (by omega) (by omega) hj hj2) n hn
/-- an order that names a door of a wagon that there may be -/
def OV (M : Nat → Int32) (i : Nat) : Prop := M (168 + 5 * i + 1) = nI 2 ∨ ∃ w d : Nat, w < 6 ∧ d < 3 ∧ M (168 + 5 * i + 2) = nI w ∧ M (168 + 5 * i + 3) = nI d
theorem q_act_off (M : Nat → Int32) {i j : Nat} (ho : OV M i) (hj : j < 120 ∨ 168 ≤ j) (hj2 : j ≠ 221) : q_act M i j = M j := by
  unfold q_act
  split
  · rw [pk_un hj2]
  · rename_i h
    rcases ho with ho | ⟨w, d, hw, hd, e1, e2⟩
    · exact absurd ho h
    · rw [e1, e2, nI_clamp (by omega), nI_clamp (by omega), q_moves_off M _ hw hd hj]
theorem q_drop_off (M : Nat → Int32) {q i j : Nat} (hq : q ≤ 10) (hj : j < 168 ∨ 218 ≤ j) (hj2 : j ≠ 223) : q_drop M q i j = M j := by
  unfold q_drop q_dropN
  rw [if_neg (by omega), pk_un hj2]
theorem q_drop_lo (M : Nat → Int32) {q i j : Nat} (hq : q ≤ 10) (hi : i ≤ 10) (hj : j < 168 + 5 * i) : q_drop M q i j = M j := by
  unfold q_drop q_dropN
  by_cases h : 168 + 5 * i ≤ j ∧ j < 168 + 5 * q
  · omega
  · rw [if_neg h]
    by_cases h3 : j = 223
    · omega
    · rw [pk_un h3]
theorem q_drop_hi (M : Nat → Int32) {q i j : Nat} (hq : q ≤ 10) (h1 : 168 + 5 * i ≤ j) (h2 : j < 168 + 5 * q) : q_drop M q i j = M (j + 5) := by
  unfold q_drop q_dropN
  rw [if_pos ⟨h1, h2⟩, pk_un (by omega)]
theorem OV_drop {M : Nat → Int32} {q i : Nat} (hq : q ≤ 9) (hi : i ≤ q) (h : ∀ t, t < q + 1 → OV M t) : ∀ t, t < q → OV (q_drop M q i) t := by
  intro t ht
  unfold OV
  by_cases h2 : t < i
  · rw [q_drop_lo M (by omega) (by omega) (by omega), q_drop_lo M (by omega) (by omega) (by omega), q_drop_lo M (by omega) (by omega) (by omega)]
    exact h t (by omega)
  · rw [q_drop_hi M (by omega) (by omega) (by omega), q_drop_hi M (by omega) (by omega) (by omega), q_drop_hi M (by omega) (by omega) (by omega)]
    have := h (t + 1) (by omega)
    unfold OV at this
    rw [show 168 + 5 * t + 1 + 5 = 168 + 5 * (t + 1) + 1 by omega, show 168 + 5 * t + 2 + 5 = 168 + 5 * (t + 1) + 2 by omega, show 168 + 5 * t + 3 + 5 = 168 + 5 * (t + 1) + 3 by omega]
    exact this
theorem OV_congr {M N : Nat → Int32} {t : Nat} (ht : t < 10) (h : ∀ j, 168 ≤ j → j < 218 → N j = M j) (o : OV M t) : OV N t := by
  unfold OV at *
  rw [h _ (by omega) (by omega), h _ (by omega) (by omega), h _ (by omega) (by omega)]
  exact o
theorem q_act_m {M : Nat → Int32} {i w d : Nat} (h : ¬ M (168 + 5 * i + 1) = nI 2) (hw : w < 6) (hd : d < 3) (e1 : M (168 + 5 * i + 2) = nI w) (e2 : M (168 + 5 * i + 3) = nI d) : q_act M i = q_moves M w d (if M (168 + 5 * i + 1) = 0 then M (168 + 5 * i + 4) else nI 0) := by
  unfold q_act
  rw [if_neg h, e1, e2, nI_clamp (by omega), nI_clamp (by omega)]
theorem q_ord_off (cn : Nat) {j : Nat} (hj : j < 120 ∨ 218 ≤ j) (h1 : j ≠ 221) (h2 : j ≠ 223) : ∀ (r i : Nat) (N : Nat → Int32), i + r ≤ 10 → N 223 = nI (i + r) → (∀ t, t < i + r → OV N t) → q_ord cn r i N j = N j
  | 0, _, _, _, _, _ => rfl
  | r + 1, i, N, hb, hq, ho => by
    show (if q_due N cn i = 0 then q_ord cn r (i + 1) N else q_ord cn r i (q_drop (q_act N i) ((N 223).toNatClampNeg - 1) i)) j = N j
    split
    · exact q_ord_off cn hj h1 h2 r (i + 1) N (by omega) (by rw [hq]; congr 1; omega) (fun t ht => ho t (by omega))
    · have hoi := ho i (by omega)
      rw [hq, nI_clamp (by omega), show i + (r + 1) - 1 = i + r by omega]
      rw [q_ord_off cn hj h1 h2 r i (q_drop (q_act N i) (i + r) i) (by omega) (q_drop223 _ _ _ _ (by omega)) (OV_drop (by omega) (by omega) (fun t ht => OV_congr (by omega) (fun z h3 h4 => q_act_off N hoi (Or.inr (by omega)) (by omega)) (ho t (by omega))))]
      rw [q_drop_off _ (by omega) (by omega) h2, q_act_off N hoi (by omega) h1]
theorem q_pp_off (M : Nat → Int32) {j : Nat} (h1 : j ≠ 219) (h2 : j ≠ 220) : q_place (q_speed M) j = M j := by unfold q_place q_speed; rw [pk_un h1, pk_un h2]
theorem q_pre_eq {M : Nat → Int32} {cn q : Nat} (hcn : M 218 = nI cn) (hq : M 223 = nI q) (h6 : cn ≤ 6) (h10 : q ≤ 10) : q_pre M = q_ord cn q 0 (q_place (q_speed M)) := by
  unfold q_pre q_orders
  rw [q_pp_off M (by decide) (by decide), q_pp_off M (by decide) (by decide), hcn, hq, nI_clamp (by omega), nI_clamp (by omega)]
theorem q_pre_off {M : Nat → Int32} {cn q : Nat} (hcn : M 218 = nI cn) (hq : M 223 = nI q) (h6 : cn ≤ 6) (h10 : q ≤ 10) (ho : ∀ t, t < q → OV M t) {j : Nat} (hj : j < 120 ∨ 218 ≤ j) (h1 : j ≠ 221) (h2 : j ≠ 223) (h3 : j ≠ 219) (h4 : j ≠ 220) : q_pre M j = M j := by
  rw [q_pre_eq hcn hq h6 h10, q_ord_off cn hj h1 h2 q 0 _ (by omega) (by rw [q_pp_off M (by decide) (by decide), hq, Nat.zero_add]) (fun t ht => OV_congr (by omega) (fun z h5 h6 => q_pp_off M (by omega) (by omega)) (ho t (by omega))), q_pp_off M h3 h4]
