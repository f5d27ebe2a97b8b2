/-! heights that stay in bounds; sliding, cutting, lacking as the class does them -/
def HB (M : Nat → Int32) (B : Int) : Prop := ∀ i, i < 120 → 0 ≤ (M i).toInt ∧ (M i).toInt ≤ B
theorem c_sum_congr {f h : Nat → Int32} : ∀ n, (∀ i, i < n → f i = h i) → c_sum f n = c_sum h n
  | 0, _ => rfl
  | n + 1, e => by
    show c_sum f n + f n = c_sum h n + h n
    rw [c_sum_congr n (fun i hi => e i (by omega)), e n (by omega)]
theorem c_sum3 (M : Nat → Int32) : ∀ c, c_sum M (3 * c) = s_sum M 0 c + s_sum M 1 c + s_sum M 2 c
  | 0 => by show nI 0 = nI 0 + nI 0 + nI 0; decide
  | c + 1 => by
    have e : c_sum M (3 * (c + 1)) = c_sum M (3 * c) + M (3 * c) + M (3 * c + 1) + M (3 * c + 2) := rfl
    rw [e, c_sum3 M c]
    show _ = (s_sum M 0 c + M (3 * c + 0)) + (s_sum M 1 c + M (3 * c + 1)) + (s_sum M 2 c + M (3 * c + 2))
    rw [Nat.add_zero]
    ac_rfl
theorem c_units (M : Nat → Int32) : c_sum (vw 120 f_hts M) 120 = s_onT M := by
  rw [c_sum_congr (h := M) 120 (fun i hi => vw_at hi)]
  exact c_sum3 M 40
/-- what a missing wagon has -/
def NW (M : Nat → Int32) (cn : Nat) : Prop := ∀ a, cn ≤ a → a < 6 → M (120 + 8 * a) = 0 ∧ ∀ d, d < 3 → M (122 + 8 * a + d) = 0 ∧ M (125 + 8 * a + d) = (-1001)
theorem c_load {M : Nat → Int32} {cn : Nat} (h : NW M cn) : ∀ n, n ≤ 6 → c_sum (vw 6 f_load M) n = s_inW M (if n ≤ cn then n else cn)
  | 0, _ => by rw [if_pos (Nat.zero_le _)]; rfl
  | n + 1, hn => by
    show c_sum (vw 6 f_load M) n + vw 6 f_load M n = _
    rw [c_load h n (by omega), vw_at (by omega)]
    by_cases hc : n + 1 ≤ cn
    · rw [if_pos (by omega), if_pos hc]; rfl
    · have h0 : M (f_load n) = 0 := (h n (by omega) (by omega)).1
      rw [if_neg hc, h0, Int32.add_zero]
      by_cases hn2 : n ≤ cn
      · rw [if_pos hn2, show n = cn by omega]
      · rw [if_neg hn2]
theorem q_sl (M : Nat → Int32) (j : Nat) (u : Int32) (hu : q_unit (M j - M (j + 3)) (M 228) = u) : q_slides M (j / 3) (j % 3) = upd (upd M j (M j - u)) (j + 3) (upd M j (M j - u) (j + 3) + u) := by
  unfold q_slides q_s1 q_by
  rw [show 3 * (j / 3) + j % 3 = j by omega, show 3 * (j / 3) + 3 + j % 3 = j + 3 by omega, hu]
theorem q_sl_p {M : Nat → Int32} {j : Nat} (h : ¬ (M j - M (j + 3)) ≤ M 228) : upd (upd M j (M j - nI 1)) (j + 3) (upd M j (M j - nI 1) (j + 3) + nI 1) = q_slides M (j / 3) (j % 3) := by
  rw [q_sl M j (nI 1) (if_neg h)]
theorem i_m1a (a : Int32) : a - (-1) = a + nI 1 := by rw [Int32.sub_eq_add_neg]; rfl
theorem i_m1b (a : Int32) : a + (-1) = a - nI 1 := by rw [Int32.sub_eq_add_neg]; rfl
theorem neg_lt {x z : Int32} (hx : -2147483648 < x.toInt) (hz : -2147483648 < z.toInt) : x < -z ↔ ¬ -x ≤ z := by
  rw [i_lt, i_le, i_neg hx, i_neg hz]; omega
theorem q_sl_m {M : Nat → Int32} {j : Nat} {B : Int} (hB : HB M B) (hB2 : B < 1000000000) (hj : j < 117) (hz : 0 ≤ (M 228).toInt) (h : (M j - M (j + 3)) ≤ M 228) (h2 : (M j - M (j + 3)) < -(M 228)) : upd (upd M j (M j + nI 1)) (j + 3) (upd M j (M j + nI 1) (j + 3) - nI 1) = q_slides M (j / 3) (j % 3) := by
  have a1 := hB j (by omega)
  have a2 := hB (j + 3) (by omega)
  have e1 : (M j - M (j + 3)).toInt = _ := i_sub (by omega) (by omega)
  rw [q_sl M j (-1) (by unfold q_unit; rw [if_pos h, if_neg ((neg_lt (by omega) (by omega)).mp h2)]), i_m1a, i_m1b]
theorem q_sl_0 {M : Nat → Int32} {j : Nat} {B : Int} (hB : HB M B) (hB2 : B < 1000000000) (hj : j < 117) (hz : 0 ≤ (M 228).toInt) (h : (M j - M (j + 3)) ≤ M 228) (h2 : ¬ (M j - M (j + 3)) < -(M 228)) : M = q_slides M (j / 3) (j % 3) := by
  have a1 := hB j (by omega)
  have a2 := hB (j + 3) (by omega)
  have e1 : (M j - M (j + 3)).toInt = _ := i_sub (by omega) (by omega)
  have h3 : -(M j - M (j + 3)) ≤ M 228 := Decidable.not_not.mp fun z => h2 ((neg_lt (by omega) (by omega)).mpr z)
  rw [q_sl M j (nI 0) (by unfold q_unit; rw [if_pos h, if_pos h3]), nI_0, Int32.sub_zero, Int32.add_zero, upd_same rfl, upd_same rfl]
theorem HB_upd {M : Nat → Int32} {B : Int} (h : HB M B) {i : Nat} {x : Int32} (h1 : 0 ≤ x.toInt) (h2 : x.toInt ≤ B) : HB (upd M i x) B := fun a ha => by
  by_cases e : a = i
  · subst e; rw [pk_us]; exact ⟨h1, h2⟩
  · rw [pk_un e]; exact h a ha
theorem HB_slides {M : Nat → Int32} {B : Int} (hB : HB M B) (hB2 : B < 1000000000) {j : Nat} (hj : j < 117) (hz : 0 ≤ (M 228).toInt) : HB (q_slides M (j / 3) (j % 3)) B := by
  have a1 := hB j (by omega)
  have a2 := hB (j + 3) (by omega)
  have e1 : (M j - M (j + 3)).toInt = _ := i_sub (by omega) (by omega)
  have o1 : (nI 1).toInt = 1 := i_nI (by decide)
  by_cases h : (M j - M (j + 3)) ≤ M 228
  · by_cases h2 : (M j - M (j + 3)) < -(M 228)
    · rw [← q_sl_m hB hB2 hj hz h h2, pk_un (by omega)]
      rw [i_lt, i_neg (by omega), e1] at h2
      have e2 : (M j + nI 1).toInt = _ := i_add (by omega) (by omega)
      have e3 : (M (j + 3) - nI 1).toInt = _ := i_sub (by omega) (by omega)
      exact HB_upd (HB_upd hB (by omega) (by omega)) (by omega) (by omega)
    · rw [← q_sl_0 hB hB2 hj hz h h2]; exact hB
  · rw [← q_sl_p h, pk_un (by omega)]
    rw [i_le, e1] at h
    have e2 : (M j - nI 1).toInt = _ := i_sub (by omega) (by omega)
    have e3 : (M (j + 3) + nI 1).toInt = _ := i_add (by omega) (by omega)
    exact HB_upd (HB_upd hB (by omega) (by omega)) (by omega) (by omega)
theorem HB_slidesN {M : Nat → Int32} {B : Int} (hB : HB M B) (hB2 : B < 1000000000) (hz : 0 ≤ (M 228).toInt) : ∀ n, n ≤ 117 → HB (q_slidesN M n) B
  | 0, _ => hB
  | n + 1, hn => by
    have h := HB_slidesN hB hB2 hz n (by omega)
    exact HB_slides (M := q_slidesN M n) h hB2 (by omega) (by rw [q_slidesN_off M (by omega) (by omega)]; exact hz)
/-! cutting -/
def c_A (g : Nat → Int32) (j : Nat) : Nat → Int32 := upd (c_cutN g j) 226 (g 226)
def c_U (g : Nat → Int32) (j : Nat) : Int32 := c_cutN g j 226 - g 226
theorem c_A0 (g : Nat → Int32) : c_A g 0 = g := upd_same rfl
theorem c_U0 (g : Nat → Int32) : c_U g 0 = nI 0 := (Int32.sub_self _).trans nI_0.symm
theorem c_cut_a (g : Nat → Int32) {j : Nat} (h : j % 3 = 1) : c_cutN g (j + 1) = c_cutN g j := by show c_cut1 (c_cutN g j) j = _; unfold c_cut1; rw [if_pos h]
theorem q_sp (M : Nat → Int32) (j : Nat) : q_spills M (j / 3) (j % 3) = upd (upd M j (M j - q_pos (M j - M 229))) 226 (upd M j (M j - q_pos (M j - M 229)) 226 + q_pos (M j - M 229)) := by
  unfold q_spills q_p1 q_over
  rw [show 3 * (j / 3) + j % 3 = j by omega]
theorem c_cut_b (g : Nat → Int32) {j : Nat} (hj : j < 120) (h : ¬ j % 3 = 1) (h2 : c_A g j j - c_cutN g j 229 ≤ 0) : c_cutN g (j + 1) = c_cutN g j := by
  have e : c_A g j j = c_cutN g j j := pk_un (by omega)
  rw [e] at h2
  show c_cut1 (c_cutN g j) j = _
  unfold c_cut1
  rw [if_neg h, q_sp, show q_pos (c_cutN g j j - c_cutN g j 229) = nI 0 from if_pos h2, nI_0, Int32.sub_zero, Int32.add_zero, upd_same rfl, upd_same rfl]
theorem c_cut_c (g : Nat → Int32) {j : Nat} (hj : j < 120) (h : ¬ j % 3 = 1) (h2 : ¬ c_A g j j - c_cutN g j 229 ≤ 0) : c_A g (j + 1) = upd (c_A g j) j (c_A g j j - (c_A g j j - c_cutN g j 229)) ∧ c_U g (j + 1) = c_U g j + (c_A g j j - c_cutN g j 229) := by
  have e : c_A g j j = c_cutN g j j := pk_un (by omega)
  rw [e] at h2 ⊢
  have e1 : c_cutN g (j + 1) = upd (upd (c_cutN g j) j (c_cutN g j j - (c_cutN g j j - c_cutN g j 229))) 226 (c_cutN g j 226 + (c_cutN g j j - c_cutN g j 229)) := by
    show c_cut1 (c_cutN g j) j = _
    unfold c_cut1
    rw [if_neg h, q_sp, show q_pos (c_cutN g j j - c_cutN g j 229) = c_cutN g j j - c_cutN g j 229 from if_neg h2, pk_un (by omega)]
  constructor
  · unfold c_A
    rw [e1, upd_upd]
    funext a
    by_cases ha : a = 226
    · subst ha; rw [pk_us, pk_un (by omega), pk_us]
    · rw [pk_un ha]
      by_cases hb : a = j
      · subst hb; rw [pk_us, pk_us]
      · rw [pk_un hb, pk_un hb, pk_un ha]
  · unfold c_U
    rw [e1, pk_us]
    rw [Int32.sub_eq_add_neg, Int32.sub_eq_add_neg (c_cutN g j 226)]
    ac_rfl
theorem c_cutN_off (g : Nat → Int32) {j : Nat} (hj : 120 ≤ j) (h6 : j ≠ 226) : ∀ n, n ≤ 120 → c_cutN g n j = g j
  | 0, _ => rfl
  | n + 1, hn => by
    show c_cut1 (c_cutN g n) n j = _
    unfold c_cut1
    split
    · exact c_cutN_off g hj h6 n (by omega)
    · rw [q_spills_off _ (by omega) (by omega) hj h6]; exact c_cutN_off g hj h6 n (by omega)
/-! lacking -/
def c_bel (M : Nat → Int32) : Nat → Int32
  | 0 => nI 0
  | n + 1 => c_bel M n + (if nI 0 < M 232 - M n then M 232 - M n else nI 0)
def c_low (M : Nat → Int32) (c : Nat) : Int32 := if M (3 * c + 2) < (if M (3 * c + 1) < M (3 * c + 0) then M (3 * c + 1) else M (3 * c + 0)) then M (3 * c + 2) else (if M (3 * c + 1) < M (3 * c + 0) then M (3 * c + 1) else M (3 * c + 0))
theorem lk_term {M : Nat → Int32} {B : Int} (hB : HB M B) (hB2 : B < 1000000000) (ha : 0 ≤ (M 232).toInt) (ha2 : (M 232).toInt ≤ 60) {i : Nat} (hi : i < 120) : (if nI 0 < M 232 - M i then M 232 - M i else nI 0) = (if M 232 ≤ M i then nI 0 else M 232 - M i) ∧ 0 ≤ (if M 232 ≤ M i then nI 0 else M 232 - M i).toInt ∧ (if M 232 ≤ M i then nI 0 else M 232 - M i).toInt ≤ 60 ∧ (M 232 ≤ M i ↔ (if M 232 ≤ M i then nI 0 else M 232 - M i).toInt = 0) := by
  have a1 := hB i hi
  have e1 : (M 232 - M i).toInt = _ := i_sub (by omega) (by omega)
  have e0 : (nI 0).toInt = 0 := i_nI (by decide)
  by_cases h : M 232 ≤ M i
  · have h' := i_le.mp h
    rw [if_pos h, if_neg (by rw [i_lt]; omega)]
    exact ⟨rfl, by omega, by omega, fun _ => e0, fun _ => h⟩
  · have h' : ¬ _ := fun z => h (i_le.mpr z)
    rw [if_neg h, if_pos (by rw [i_lt]; omega)]
    exact ⟨rfl, by omega, by omega, fun z => absurd z h, fun z => by omega⟩
theorem lk_in {M : Nat → Int32} {B : Int} (hB : HB M B) (hB2 : B < 1000000000) (ha : 0 ≤ (M 232).toInt) (ha2 : (M 232).toInt ≤ 60) {c : Nat} (hc : c < 40) : c_bel M (3 * (c + 1)) = c_bel M (3 * c) + s_lackIn M c 3 ∧ (s_lackIn M c 3 ≤ 0 ↔ s_lackIn M c 3 = 0) ∧ (c_low M c < M 232 ↔ ¬ s_lackIn M c 3 ≤ 0) := by
  obtain ⟨p0, p1, p2, p3⟩ := lk_term hB hB2 ha ha2 (i := 3 * c + 0) (by omega)
  obtain ⟨r0, r1, r2, r3⟩ := lk_term hB hB2 ha ha2 (i := 3 * c + 1) (by omega)
  obtain ⟨t0, t1, t2, t3⟩ := lk_term hB hB2 ha ha2 (i := 3 * c + 2) (by omega)
  have eb : c_bel M (3 * (c + 1)) = c_bel M (3 * c) + (if nI 0 < M 232 - M (3 * c + 0) then M 232 - M (3 * c + 0) else nI 0) + (if nI 0 < M 232 - M (3 * c + 1) then M 232 - M (3 * c + 1) else nI 0) + (if nI 0 < M 232 - M (3 * c + 2) then M 232 - M (3 * c + 2) else nI 0) := rfl
  have es : s_lackIn M c 3 = nI 0 + (if M 232 ≤ M (3 * c + 0) then nI 0 else M 232 - M (3 * c + 0)) + (if M 232 ≤ M (3 * c + 1) then nI 0 else M 232 - M (3 * c + 1)) + (if M 232 ≤ M (3 * c + 2) then nI 0 else M 232 - M (3 * c + 2)) := rfl
  rw [p0, r0, t0] at eb
  have hl : c_low M c < M 232 ↔ ¬ (M 232 ≤ M (3 * c + 0) ∧ M 232 ≤ M (3 * c + 1) ∧ M 232 ≤ M (3 * c + 2)) := by
    unfold c_low
    by_cases g1 : M (3 * c + 1) < M (3 * c + 0)
    · rw [if_pos g1]
      by_cases g2 : M (3 * c + 2) < M (3 * c + 1)
      · rw [if_pos g2]; simp only [i_lt, i_le] at *; omega
      · rw [if_neg g2]; simp only [i_lt, i_le] at *; omega
    · rw [if_neg g1]
      by_cases g2 : M (3 * c + 2) < M (3 * c + 0)
      · rw [if_pos g2]; simp only [i_lt, i_le] at *; omega
      · rw [if_neg g2]; simp only [i_lt, i_le] at *; omega
  rw [hl]
  rw [p3, r3, t3]
  revert eb es p1 p2 r1 r2 t1 t2
  generalize (if M 232 ≤ M (3 * c + 0) then nI 0 else M 232 - M (3 * c + 0)) = x
  generalize (if M 232 ≤ M (3 * c + 1) then nI 0 else M 232 - M (3 * c + 1)) = y
  generalize (if M 232 ≤ M (3 * c + 2) then nI 0 else M 232 - M (3 * c + 2)) = z
  intro p1 p2 r1 r2 t1 t2 eb es
  have s1 : (x + y).toInt = _ := i_add (by omega) (by omega)
  have s2 : (x + y + z).toInt = _ := i_add (by omega) (by omega)
  rw [nI_0, Int32.zero_add] at es
  rw [es, eb]
  refine ⟨by ac_rfl, ?_, ?_⟩
  · rw [i_le, i_eq, i_0]; omega
  · rw [i_le, i_0]; omega
theorem c_bel_lackF {M : Nat → Int32} {B : Int} (hB : HB M B) (hB2 : B < 1000000000) (ha : 0 ≤ (M 232).toInt) (ha2 : (M 232).toInt ≤ 60) : ∀ r c (kk : Nat), c + r = 40 → kk ≤ c → s_lackF M (-1) r c (nI kk) (c_bel M (3 * c)) = c_bel M 120
  | 0, c, kk, hc, _ => by
    rw [show 3 * c = 120 by omega]; rfl
  | r + 1, c, kk, hc, hk => by
    obtain ⟨e1, e2, e3⟩ := lk_in hB hB2 ha ha2 (c := c) (by omega)
    show (if s_lackIn M c 3 ≤ 0 then s_lackF M (-1) r (c + 1) (nI kk) (c_bel M (3 * c)) else (if nI kk = (-1) then nI c else s_lackF M (-1) r (c + 1) (nI kk + Int32.ofInt 1) (c_bel M (3 * c) + s_lackIn M c 3))) = _
    by_cases h : s_lackIn M c 3 ≤ 0
    · rw [if_pos h]
      have h0 := e2.mp h
      rw [h0, Int32.add_zero] at e1
      rw [← e1]
      exact c_bel_lackF hB hB2 ha ha2 r (c + 1) kk (by omega) (by omega)
    · rw [if_neg h, if_neg (by rw [i_eq, i_nI (by omega), i_m1]; omega), ← e1, nI_inc]
      exact c_bel_lackF hB hB2 ha ha2 r (c + 1) (kk + 1) (by omega) (by omega)
theorem c_bel_lack {M : Nat → Int32} {B : Int} (hB : HB M B) (hB2 : B < 1000000000) (ha : 0 ≤ (M 232).toInt) (ha2 : (M 232).toInt ≤ 60) : c_bel M 120 = s_lack M (-1) := by
  unfold s_lack
  rw [if_pos (Int32.le_refl _)]
  exact (c_bel_lackF hB hB2 ha ha2 40 0 0 rfl (Nat.le_refl 0)).symm
