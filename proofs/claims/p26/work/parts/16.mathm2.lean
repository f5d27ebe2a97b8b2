/-! more of the reference: history, aside, what is told -/
theorem in_nat1 {x : Int32} {a N : Nat} (ha : a < 2 ^ 31) (hN : N < 2 ^ 31) (h : ¬ x < nI a ∧ ¬ nI N < x) : ∃ j : Nat, a ≤ j ∧ j ≤ N ∧ x = nI j := by
  have h0 : ¬ x < nI 0 := fun z => h.1 (by
    have h1 := Int32.lt_iff_toInt_lt.mp z
    have h2 : (nI 0).toInt = 0 := nI_toInt (by decide)
    refine Int32.lt_iff_toInt_lt.mpr ?_
    rw [nI_toInt ha]; omega)
  obtain ⟨j, hj, e⟩ := in_nat hN ⟨h0, h.2⟩
  refine ⟨j, ?_, hj, e⟩
  rw [e] at h
  exact Nat.not_lt.mp fun z => h.1 ((nI_ltI (by omega) ha).mpr z)
theorem nI_in1 {j a N : Nat} (ha : a ≤ j) (hj : j ≤ N) (hN : N < 2 ^ 31) : ¬ nI j < nI a ∧ ¬ nI N < nI j := ⟨nI_nlt ha (by omega), nI_nlt hj hN⟩
theorem upd_same {f : Nat → Int32} {k : Nat} {x : Int32} (h : f k = x) : upd f k x = f := by
  funext j; by_cases hj : j = k
  · subst hj; rw [pk_us, h]
  · rw [pk_un hj]
theorem upd_upd (f : Nat → Int32) (k : Nat) (x z : Int32) : upd (upd f k x) k z = upd f k z := by
  funext j; by_cases hj : j = k
  · subst hj; rw [pk_us, pk_us]
  · rw [pk_un hj, pk_un hj, pk_un hj]
def s_sh (P : Nat → Int32) (t : Nat) : Nat → Int32 := fun k => if k < t then P (k + 233) else P k
theorem s_sh0 (P : Nat → Int32) : s_sh P 0 = P := rfl
theorem s_shS (P : Nat → Int32) (t : Nat) : upd (s_sh P t) t (s_sh P t (t + 233)) = s_sh P (t + 1) := by
  have e : s_sh P t (t + 233) = P (t + 233) := by simp only [s_sh]; rw [if_neg (by omega)]
  rw [e]
  funext k
  by_cases h : k = t
  · subst h; rw [pk_us]; simp only [s_sh]; rw [if_pos (by omega)]
  · rw [pk_un h]; simp only [s_sh]
    by_cases h2 : k < t
    · rw [if_pos h2, if_pos (by omega)]
    · rw [if_neg h2, if_neg (by omega)]
def s_cp (M P : Nat → Int32) (b t : Nat) : Nat → Int32 := fun k => if b ≤ k ∧ k < b + t then M (k - b) else P k
theorem s_cp0 (M P : Nat → Int32) (b : Nat) : s_cp M P b 0 = P := by funext k; simp only [s_cp]; rw [if_neg (by omega)]
theorem s_cpS (M P : Nat → Int32) (b t : Nat) : upd (s_cp M P b t) (b + t) (M t) = s_cp M P b (t + 1) := by
  funext k
  by_cases h : k = b + t
  · subst h; rw [pk_us]; simp only [s_cp]; rw [if_pos (by omega), Nat.add_sub_cancel_left]
  · rw [pk_un h]; simp only [s_cp]
    by_cases h2 : b ≤ k ∧ k < b + t
    · rw [if_pos h2, if_pos (by omega)]
    · rw [if_neg h2, if_neg (by omega)]
def s_u (u : Nat) : Nat := if u = 6 then 6 else u + 1
def s_keepP (M P : Nat → Int32) (u : Nat) : Nat → Int32 := if u = 6 then s_cp M (s_sh P 1165) (233 * 5) 233 else s_cp M P (233 * u) 233
def s_ld (M P : Nat → Int32) (b t : Nat) : Nat → Int32 := fun k => if k < t then P (b + k) else M k
theorem s_ld0 (M P : Nat → Int32) (b : Nat) : s_ld M P b 0 = M := rfl
theorem s_ldS (M P : Nat → Int32) (b t : Nat) : upd (s_ld M P b t) t (P (b + t)) = s_ld M P b (t + 1) := by
  funext k
  by_cases h : k = t
  · subst h; rw [pk_us]; simp only [s_ld]; rw [if_pos (by omega)]
  · rw [pk_un h]; simp only [s_ld]
    by_cases h2 : k < t
    · rw [if_pos h2, if_pos (by omega)]
    · rw [if_neg h2, if_neg (by omega)]
def s_as (A M : Nat → Int32) (t : Nat) : Nat → Int32 := fun k => if k < t then M k else A k
theorem s_as0 (A M : Nat → Int32) : s_as A M 0 = A := rfl
theorem s_asS (A M : Nat → Int32) (t : Nat) : upd (s_as A M t) t (M t) = s_as A M (t + 1) := by
  funext k
  by_cases h : k = t
  · subst h; rw [pk_us]; simp only [s_as]; rw [if_pos (by omega)]
  · rw [pk_un h]; simp only [s_as]
    by_cases h2 : k < t
    · rw [if_pos h2, if_pos (by omega)]
    · rw [if_neg h2, if_neg (by omega)]
/-- nothing lies behind the row's end -/
def Zr (M : Nat → Int32) : Prop := ∀ i, 233 ≤ i → M i = 0
def s_row (P : Nat → Int32) (j : Nat) : Nat → Int32 := fun i => if i < 233 then P (233 * j + i) else 0
def s_inW (M : Nat → Int32) : Nat → Int32
  | 0 => nI 0
  | n + 1 => s_inW M n + M (120 + 8 * n + 0)
def s_sum (M : Nat → Int32) (s : Nat) : Nat → Int32
  | 0 => nI 0
  | n + 1 => s_sum M s n + M (3 * n + s)
def s_high (M : Nat → Int32) (s : Nat) : Nat → Nat
  | 0 => 0
  | n + 1 => if M (3 * n + s) ≤ M (3 * s_high M s n + s) then s_high M s n else n
theorem s_high_lt (M : Nat → Int32) (s : Nat) : ∀ n, 0 < n → s_high M s n < n
  | 0, h => absurd h (by decide)
  | n + 1, _ => by
    show (if M (3 * n + s) ≤ M (3 * s_high M s n + s) then s_high M s n else n) < n + 1
    split
    · rcases Nat.eq_zero_or_pos n with z | z
      · subst z; exact Nat.lt_succ_self 0
      · have := s_high_lt M s n z; omega
    · omega
def s_all (M : Nat → Int32) (s : Nat) : Nat → Nat
  | 0 => 0
  | n + 1 => s_all M s n + (if M (3 * n + s) < M 232 then 0 else 1)
def s_now (M : Nat → Int32) (s : Nat) : Nat → Nat
  | 0 => 0
  | n + 1 => if M (3 * n + s) < M 232 then 0 else s_now M s n + 1
def s_most (M : Nat → Int32) (s : Nat) : Nat → Nat
  | 0 => 0
  | n + 1 => if s_now M s (n + 1) ≤ s_most M s n then s_most M s n else s_now M s (n + 1)
theorem s_now_le (M : Nat → Int32) (s : Nat) : ∀ n, s_now M s n ≤ n
  | 0 => Nat.le_refl 0
  | n + 1 => by
    show (if M (3 * n + s) < M 232 then 0 else s_now M s n + 1) ≤ n + 1
    split
    · omega
    · have := s_now_le M s n; omega
theorem s_most_le (M : Nat → Int32) (s : Nat) : ∀ n, s_most M s n ≤ n
  | 0 => Nat.le_refl 0
  | n + 1 => by
    show (if s_now M s (n + 1) ≤ s_most M s n then s_most M s n else s_now M s (n + 1)) ≤ n + 1
    split
    · have := s_most_le M s n; omega
    · exact s_now_le M s (n + 1)
theorem s_all_le (M : Nat → Int32) (s : Nat) : ∀ n, s_all M s n ≤ n
  | 0 => Nat.le_refl 0
  | n + 1 => by
    have := s_all_le M s n
    show s_all M s n + (if M (3 * n + s) < M 232 then 0 else 1) ≤ n + 1
    split <;> omega
def s_abs (x : Int32) : Int32 := if 0 ≤ x then x else -x
def s_steep (M : Nat → Int32) (s : Nat) : Nat → Int32
  | 0 => nI 0
  | n + 1 => if s_abs (q_by M n s) ≤ s_steep M s n then s_steep M s n else s_abs (q_by M n s)
def s_profN (M : Nat → Int32) (s j : Nat) : Int32 := match j with
  | 0 => s_sum M s 40
  | 1 => M (3 * s_high M s 40 + s)
  | 2 => nI (s_high M s 40)
  | 3 => nI (s_all M s 40)
  | 4 => nI (s_most M s 40)
  | _ => s_steep M s 39
def s_prof (M : Nat → Int32) (s w : Int32) : Int32 := if ¬ s < nI 0 ∧ ¬ nI 2 < s then (if ¬ w < nI 0 ∧ ¬ nI 5 < w then s_profN M s.toNatClampNeg w.toNatClampNeg else (-1002)) else (-1002)
def s_lackIn (M : Nat → Int32) (c : Nat) : Nat → Int32
  | 0 => nI 0
  | n + 1 => s_lackIn M c n + (if M 232 ≤ M (3 * c + n) then nI 0 else M 232 - M (3 * c + n))
/-- the search among the cells from c on, n of them: k found so far, z units so far -/
def s_lackF (M : Nat → Int32) (i : Int32) : Nat → Nat → Int32 → Int32 → Int32
  | 0, _, _, z => if i = (-1) then z else (-1001)
  | n + 1, c, k, z => if s_lackIn M c 3 ≤ 0 then s_lackF M i n (c + 1) k z else (if k = i then nI c else s_lackF M i n (c + 1) (k + Int32.ofInt 1) (z + s_lackIn M c 3))
def s_lack (M : Nat → Int32) (i : Int32) : Int32 := if (-1) ≤ i then s_lackF M i 40 0 (nI 0) (nI 0) else (-1002)
def s_ordered (M : Nat → Int32) (q : Nat) (i w : Int32) : Int32 := if i < 0 then (-1002) else (if ¬ w < nI 0 ∧ ¬ nI 4 < w then (if nI q ≤ i then (-1001) else M (168 + 5 * i.toNatClampNeg + w.toNatClampNeg)) else (-1002))
def s_onT (M : Nat → Int32) : Int32 := s_sum M 0 40 + s_sum M 1 40 + s_sum M 2 40
def s_partN (M : Nat → Int32) (cn j : Nat) : Int32 := match j with
  | 0 => M 219
  | 1 => s_inW M cn
  | 2 => s_onT M
  | 3 => M 226
  | 4 => M 224
  | 5 => s_lack M (-1)
  | _ => M 223
def s_secs (M : Nat → Int32) : Nat → Nat → Int32
  | 0 => M
  | n + 1 => q_second (s_secs M n)
def s_fore (M : Nat → Int32) (cn : Nat) (n w : Int32) : Int32 := if ¬ n < nI 1 ∧ ¬ nI 200 < n then (if ¬ w < nI 0 ∧ ¬ nI 6 < w then s_partN (s_secs M n.toNatClampNeg) cn w.toNatClampNeg else (-1002)) else (-1002)
/-- how many of at most f seconds pass from the n-th on until the wagons are empty -/
def s_empF (cn : Nat) : Nat → Nat → (Nat → Int32) → Nat × (Nat → Int32)
  | 0, n, M => (n, M)
  | f + 1, n, M => if s_inW M cn ≤ 0 then (n, M) else s_empF cn f (n + 1) (q_second M)
def s_emp (M : Nat → Int32) (cn : Nat) : Int32 := if s_inW (s_empF cn 400 0 M).2 cn = 0 then nI (s_empF cn 400 0 M).1 else (-1001)
def s_countN (M : Nat → Int32) (cn u t j : Nat) : Int32 := if j < 8 then M (218 + j) else (if j = 8 then s_inW M cn else (if j = 9 then s_onT M else (if j = 10 then M 226 else (if j = 11 then M 227 else (if j = 12 then nI u else (if j = 13 then nI t else M (228 + j - 14)))))))
def s_count (M : Nat → Int32) (cn u t : Nat) (w : Int32) : Int32 := if ¬ w < nI 0 ∧ ¬ nI 18 < w then s_countN M cn u t w.toNatClampNeg else (-1002)
def s_cl3 (M : Nat → Int32) (a : Nat) : Nat → Int32
  | 0 => nI 0
  | n + 1 => s_cl3 M a n + (if M (120 + 8 * a + (5 + n)) = (-1001) then nI 0 else nI 1)
def s_wagN (M : Nat → Int32) (a j : Nat) : Int32 := match j with
  | 0 => M (120 + 8 * a + 0)
  | 1 => M 219 - nI (4 * a)
  | 2 => M (120 + 8 * a + 2) + M (120 + 8 * a + 3) + M (120 + 8 * a + 4)
  | 3 => s_cl3 M a 3
  | _ => M (120 + 8 * a + 1)
def isW (cn : Nat) (w : Int32) : Prop := ¬ w < nI 0 ∧ ¬ nI (cn - 1) < w
def s_wag (M : Nat → Int32) (cn : Nat) (a w : Int32) : Int32 := if ¬ a < nI 0 ∧ ¬ nI (cn - 1) < a then (if ¬ w < nI 0 ∧ ¬ nI 4 < w then s_wagN M a.toNatClampNeg w.toNatClampNeg else (-1002)) else (-1002)
def s_door (M : Nat → Int32) (cn : Nat) (a b w : Int32) : Int32 := if ¬ a < nI 0 ∧ ¬ nI (cn - 1) < a then (if ¬ b < nI 0 ∧ ¬ nI 2 < b then (if ¬ w < nI 0 ∧ ¬ nI 1 < w then M (120 + 8 * a.toNatClampNeg + ((if w = 0 then 2 else 5) + b.toNatClampNeg)) else (-1002)) else (-1002)) else (-1002)
def s_height (M : Nat → Int32) (a b : Int32) : Int32 := if ¬ a < nI 0 ∧ ¬ nI 39 < a then (if ¬ b < nI 0 ∧ ¬ nI 2 < b then M (3 * a.toNatClampNeg + b.toNatClampNeg) else (-1002)) else (-1002)
/-! the digest -/
def s_mix (h : Int64) (v : Int32) : Int64 := 31 * h + v.toInt64
def s_mixN (f : Nat → Int32) (h : Int64) : Nat → Int64
  | 0 => h
  | n + 1 => s_mix (s_mixN f h n) (f n)
def s_mixW (M : Nat → Int32) (cn a : Nat) (h : Int64) : Int64 := s_mixN (fun k => s_door M cn (nI a) (nI (k / 2)) (nI (k % 2))) (s_mixN (fun k => s_wag M cn (nI a) (nI k)) h 5) 6
def s_mixWs (M : Nat → Int32) (cn : Nat) (h : Int64) : Nat → Int64
  | 0 => h
  | n + 1 => s_mixW M cn n (s_mixWs M cn h n)
def s_digest (M T : Nat → Int32) (cn q u t : Nat) : Int64 :=
  let h1 := s_mixN (fun k => s_count M cn u t (nI k)) 149 19
  let h2 := s_mixWs M cn h1 cn
  let h3 := s_mixN M h2 120
  let h4 := s_mixN (fun k => s_prof M (nI (k / 6)) (nI (k % 6))) h3 18
  let h5 := s_mix h4 (s_lack M (-1))
  let h6 := s_mixN (fun k => M (168 + k)) h5 (5 * q)
  let h7 := s_mixN (fun k => s_fore M cn (nI 20) (nI k)) h6 7
  let h8 := s_mix h7 (s_emp M cn)
  s_mixN T h8 t
theorem sw_out {x : Int32} {N : Nat} (hN : N < 2 ^ 31) (h : ¬ (¬ x < nI 0 ∧ ¬ nI N < x)) : x.toInt < 0 ∨ (N : Int) < x.toInt := by
  have e0 : (nI 0).toInt = 0 := nI_toInt (by decide)
  have eN : (nI N).toInt = (N : Int) := nI_toInt hN
  by_cases h1 : x < nI 0
  · have := Int32.lt_iff_toInt_lt.mp h1; omega
  · by_cases h2 : nI N < x
    · have := Int32.lt_iff_toInt_lt.mp h2; omega
    · exact absurd ⟨h1, h2⟩ h
theorem ws_1_0 (w : Wd) (g g2 : Nat → Int32) : wset (wset w 1 g) 0 g2 = wset (wset w 0 g2) 1 g := wset_swap w (by decide) g g2
theorem ws_8_0 (w : Wd) (g g2 : Nat → Int32) : wset (wset w 8 g) 0 g2 = wset (wset w 0 g2) 8 g := wset_swap w (by decide) g g2
theorem ws_8_1 (w : Wd) (g g2 : Nat → Int32) : wset (wset w 8 g) 1 g2 = wset (wset w 1 g2) 8 g := wset_swap w (by decide) g g2
theorem ws_9_0 (w : Wd) (g g2 : Nat → Int32) : wset (wset w 9 g) 0 g2 = wset (wset w 0 g2) 9 g := wset_swap w (by decide) g g2
theorem ws_9_1 (w : Wd) (g g2 : Nat → Int32) : wset (wset w 9 g) 1 g2 = wset (wset w 1 g2) 9 g := wset_swap w (by decide) g g2
theorem ws_9_8 (w : Wd) (g g2 : Nat → Int32) : wset (wset w 9 g) 8 g2 = wset (wset w 8 g2) 9 g := wset_swap w (by decide) g g2
theorem ws_10_0 (w : Wd) (g g2 : Nat → Int32) : wset (wset w 10 g) 0 g2 = wset (wset w 0 g2) 10 g := wset_swap w (by decide) g g2
theorem ws_10_1 (w : Wd) (g g2 : Nat → Int32) : wset (wset w 10 g) 1 g2 = wset (wset w 1 g2) 10 g := wset_swap w (by decide) g g2
theorem ws_10_8 (w : Wd) (g g2 : Nat → Int32) : wset (wset w 10 g) 8 g2 = wset (wset w 8 g2) 10 g := wset_swap w (by decide) g g2
theorem ws_10_9 (w : Wd) (g g2 : Nat → Int32) : wset (wset w 10 g) 9 g2 = wset (wset w 9 g2) 10 g := wset_swap w (by decide) g g2
theorem ws_11_0 (w : Wd) (g g2 : Nat → Int32) : wset (wset w 11 g) 0 g2 = wset (wset w 0 g2) 11 g := wset_swap w (by decide) g g2
theorem ws_11_1 (w : Wd) (g g2 : Nat → Int32) : wset (wset w 11 g) 1 g2 = wset (wset w 1 g2) 11 g := wset_swap w (by decide) g g2
theorem ws_11_8 (w : Wd) (g g2 : Nat → Int32) : wset (wset w 11 g) 8 g2 = wset (wset w 8 g2) 11 g := wset_swap w (by decide) g g2
theorem ws_11_9 (w : Wd) (g g2 : Nat → Int32) : wset (wset w 11 g) 9 g2 = wset (wset w 9 g2) 11 g := wset_swap w (by decide) g g2
theorem ws_11_10 (w : Wd) (g g2 : Nat → Int32) : wset (wset w 11 g) 10 g2 = wset (wset w 10 g2) 11 g := wset_swap w (by decide) g g2
theorem ws_12_0 (w : Wd) (g g2 : Nat → Int32) : wset (wset w 12 g) 0 g2 = wset (wset w 0 g2) 12 g := wset_swap w (by decide) g g2
theorem ws_12_1 (w : Wd) (g g2 : Nat → Int32) : wset (wset w 12 g) 1 g2 = wset (wset w 1 g2) 12 g := wset_swap w (by decide) g g2
theorem ws_12_8 (w : Wd) (g g2 : Nat → Int32) : wset (wset w 12 g) 8 g2 = wset (wset w 8 g2) 12 g := wset_swap w (by decide) g g2
theorem ws_12_9 (w : Wd) (g g2 : Nat → Int32) : wset (wset w 12 g) 9 g2 = wset (wset w 9 g2) 12 g := wset_swap w (by decide) g g2
theorem ws_12_10 (w : Wd) (g g2 : Nat → Int32) : wset (wset w 12 g) 10 g2 = wset (wset w 10 g2) 12 g := wset_swap w (by decide) g g2
theorem ws_12_11 (w : Wd) (g g2 : Nat → Int32) : wset (wset w 12 g) 11 g2 = wset (wset w 11 g2) 12 g := wset_swap w (by decide) g g2
theorem ws_13_0 (w : Wd) (g g2 : Nat → Int32) : wset (wset w 13 g) 0 g2 = wset (wset w 0 g2) 13 g := wset_swap w (by decide) g g2
theorem ws_13_1 (w : Wd) (g g2 : Nat → Int32) : wset (wset w 13 g) 1 g2 = wset (wset w 1 g2) 13 g := wset_swap w (by decide) g g2
theorem ws_13_8 (w : Wd) (g g2 : Nat → Int32) : wset (wset w 13 g) 8 g2 = wset (wset w 8 g2) 13 g := wset_swap w (by decide) g g2
theorem ws_13_9 (w : Wd) (g g2 : Nat → Int32) : wset (wset w 13 g) 9 g2 = wset (wset w 9 g2) 13 g := wset_swap w (by decide) g g2
theorem ws_13_10 (w : Wd) (g g2 : Nat → Int32) : wset (wset w 13 g) 10 g2 = wset (wset w 10 g2) 13 g := wset_swap w (by decide) g g2
theorem ws_13_11 (w : Wd) (g g2 : Nat → Int32) : wset (wset w 13 g) 11 g2 = wset (wset w 11 g2) 13 g := wset_swap w (by decide) g g2
theorem ws_13_12 (w : Wd) (g g2 : Nat → Int32) : wset (wset w 13 g) 12 g2 = wset (wset w 12 g2) 13 g := wset_swap w (by decide) g g2
theorem ws_14_0 (w : Wd) (g g2 : Nat → Int32) : wset (wset w 14 g) 0 g2 = wset (wset w 0 g2) 14 g := wset_swap w (by decide) g g2
theorem ws_14_1 (w : Wd) (g g2 : Nat → Int32) : wset (wset w 14 g) 1 g2 = wset (wset w 1 g2) 14 g := wset_swap w (by decide) g g2
theorem ws_14_8 (w : Wd) (g g2 : Nat → Int32) : wset (wset w 14 g) 8 g2 = wset (wset w 8 g2) 14 g := wset_swap w (by decide) g g2
theorem ws_14_9 (w : Wd) (g g2 : Nat → Int32) : wset (wset w 14 g) 9 g2 = wset (wset w 9 g2) 14 g := wset_swap w (by decide) g g2
theorem ws_14_10 (w : Wd) (g g2 : Nat → Int32) : wset (wset w 14 g) 10 g2 = wset (wset w 10 g2) 14 g := wset_swap w (by decide) g g2
theorem ws_14_11 (w : Wd) (g g2 : Nat → Int32) : wset (wset w 14 g) 11 g2 = wset (wset w 11 g2) 14 g := wset_swap w (by decide) g g2
theorem ws_14_12 (w : Wd) (g g2 : Nat → Int32) : wset (wset w 14 g) 12 g2 = wset (wset w 12 g2) 14 g := wset_swap w (by decide) g g2
theorem ws_14_13 (w : Wd) (g g2 : Nat → Int32) : wset (wset w 14 g) 13 g2 = wset (wset w 13 g2) 14 g := wset_swap w (by decide) g g2
theorem ws_15_0 (w : Wd) (g g2 : Nat → Int32) : wset (wset w 15 g) 0 g2 = wset (wset w 0 g2) 15 g := wset_swap w (by decide) g g2
theorem ws_15_1 (w : Wd) (g g2 : Nat → Int32) : wset (wset w 15 g) 1 g2 = wset (wset w 1 g2) 15 g := wset_swap w (by decide) g g2
theorem ws_15_8 (w : Wd) (g g2 : Nat → Int32) : wset (wset w 15 g) 8 g2 = wset (wset w 8 g2) 15 g := wset_swap w (by decide) g g2
theorem ws_15_9 (w : Wd) (g g2 : Nat → Int32) : wset (wset w 15 g) 9 g2 = wset (wset w 9 g2) 15 g := wset_swap w (by decide) g g2
theorem ws_15_10 (w : Wd) (g g2 : Nat → Int32) : wset (wset w 15 g) 10 g2 = wset (wset w 10 g2) 15 g := wset_swap w (by decide) g g2
theorem ws_15_11 (w : Wd) (g g2 : Nat → Int32) : wset (wset w 15 g) 11 g2 = wset (wset w 11 g2) 15 g := wset_swap w (by decide) g g2
theorem ws_15_12 (w : Wd) (g g2 : Nat → Int32) : wset (wset w 15 g) 12 g2 = wset (wset w 12 g2) 15 g := wset_swap w (by decide) g g2
theorem ws_15_13 (w : Wd) (g g2 : Nat → Int32) : wset (wset w 15 g) 13 g2 = wset (wset w 13 g2) 15 g := wset_swap w (by decide) g g2
theorem ws_15_14 (w : Wd) (g g2 : Nat → Int32) : wset (wset w 15 g) 14 g2 = wset (wset w 14 g2) 15 g := wset_swap w (by decide) g g2
def s_setMost (x : Int32) : Int32 := if x = 0 then nI 20 else (if x = nI 1 then nI 60 else (if x = nI 4 then nI 60 else (if x = nI 2 then nI 9 else nI 200)))
theorem s_setM : ∀ j, j < 5 → s_setMost (nI j) = mstS j := by decide
theorem s_setL : ∀ j, j < 5 → lstS j = if j < 2 then nI 1 else nI 0 := by decide
def s_setOK (x v : Int32) : Prop := (¬ x < nI 0 ∧ ¬ nI 4 < x) ∧ ¬ v < lstS x.toNatClampNeg ∧ ¬ mstS x.toNatClampNeg < v
theorem Zr_upd {M : Nat → Int32} {k : Nat} {x : Int32} (h : Zr M) (hk : k < 233) : Zr (upd M k x) := fun i hi => by rw [pk_un (by omega)]; exact h i hi
