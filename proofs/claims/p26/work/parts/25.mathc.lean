/-! numbers that stay small, and the class's steps in the reference's row -/
theorem i_bm {x : Int} (h1 : -2147483648 ≤ x) (h2 : x < 2147483648) : x.bmod (2 ^ 32) = x := Int.bmod_eq_of_le (by omega) (by omega)
theorem i_sub {a b : Int32} (h1 : -2147483648 ≤ a.toInt - b.toInt) (h2 : a.toInt - b.toInt < 2147483648) : (a - b).toInt = a.toInt - b.toInt := by rw [Int32.toInt_sub]; exact i_bm h1 h2
theorem i_add {a b : Int32} (h1 : -2147483648 ≤ a.toInt + b.toInt) (h2 : a.toInt + b.toInt < 2147483648) : (a + b).toInt = a.toInt + b.toInt := by rw [Int32.toInt_add]; exact i_bm h1 h2
theorem i_neg {a : Int32} (h1 : -2147483648 < a.toInt) : (-a).toInt = -a.toInt := by
  rw [Int32.toInt_neg]
  have := Int32.toInt_lt a
  exact i_bm (by omega) (by omega)
theorem i_lt {a b : Int32} : a < b ↔ a.toInt < b.toInt := Int32.lt_iff_toInt_lt
theorem i_le {a b : Int32} : a ≤ b ↔ a.toInt ≤ b.toInt := Int32.le_iff_toInt_le
theorem i_eq {a b : Int32} : a = b ↔ a.toInt = b.toInt := Int32.toInt_inj.symm
theorem i_nI {n : Nat} (h : n < 2147483648) : (nI n).toInt = (n : Int) := nI_toInt (by omega)
theorem i_m1001 : ((-1001) : Int32).toInt = -1001 := by decide
theorem i_m1 : ((-1) : Int32).toInt = -1 := by decide
theorem i_0 : (0 : Int32).toInt = 0 := by decide
theorem ge_gt {N : Nat} (hN : N < 2147483647) {x : Int32} : nI (N + 1) ≤ x ↔ nI N < x := by
  rw [i_le, i_lt, i_nI (by omega), i_nI (by omega)]; omega
theorem maxN {a b : Nat} (ha : a < 2147483648) (hb : b < 2147483648) : (if nI a < nI b then nI b else nI a) = nI (if b ≤ a then a else b) := by
  by_cases h : nI a < nI b
  · rw [if_pos h, if_neg]
    rw [i_lt, i_nI ha, i_nI hb] at h; omega
  · rw [if_neg h, if_pos]
    rw [i_lt, i_nI ha, i_nI hb] at h; omega
theorem s_abs0 (x : Int32) : (if 0 ≤ x then x else 0 - x) = s_abs x := by rw [Int32.zero_sub]; rfl
theorem max_le (a b : Int32) : (if a < b then b else a) = (if b ≤ a then a else b) := by
  by_cases h : a < b
  · rw [if_pos h, if_neg (Int32.not_le.mpr h)]
  · rw [if_neg h, if_pos (Int32.not_lt.mp h)]
theorem min_lt (a b : Int32) : (if b < a then b else a) = (if a < b then a else b) := by
  by_cases h : b < a
  · rw [if_pos h]
    by_cases h2 : a < b
    · rw [i_lt] at h h2; omega
    · rw [if_neg h2]
  · rw [if_neg h]
    by_cases h2 : a < b
    · rw [if_pos h2]
    · rw [if_neg h2]; rw [i_lt] at h h2; rw [i_eq]; omega
theorem add_back (a b : Int32) : a + (b - a) = b := by rw [Int32.add_comm, Int32.sub_add_cancel]
/-- the first n numbers of a row added up -/
def c_sum (f : Nat → Int32) : Nat → Int32
  | 0 => nI 0
  | n + 1 => c_sum f n + f n
/-- one step of cutting at place i -/
def c_cut1 (M : Nat → Int32) (i : Nat) : Nat → Int32 := if i % 3 = 1 then M else q_spills M (i / 3) (i % 3)
def c_cutN (M : Nat → Int32) (n : Nat) : Nat → Int32 := q_it c_cut1 M n
theorem c_cut_eq (M : Nat → Int32) : ∀ c, c_cutN M (3 * c) = q_spillsN M c
  | 0 => rfl
  | c + 1 => by
    have e : c_cutN M (3 * (c + 1)) = c_cut1 (c_cut1 (c_cut1 (c_cutN M (3 * c)) (3 * c)) (3 * c + 1)) (3 * c + 2) := rfl
    rw [e, c_cut_eq M c]
    show _ = q_spills (q_spills (q_spillsN M c) c 0) c 2
    unfold c_cut1
    rw [if_neg (by omega), if_pos (by omega), if_neg (by omega), show 3 * c / 3 = c by omega, show 3 * c % 3 = 0 by omega, show (3 * c + 2) / 3 = c by omega, show (3 * c + 2) % 3 = 2 by omega]
