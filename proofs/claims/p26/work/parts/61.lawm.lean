/-! the law's own rows: its numbers, its packed heights -/
theorem fw_lo {i j : Nat} (h : i < 48) (e : 120 + i = j) : f_w i = j := by unfold f_w; rw [if_pos h]; exact e
theorem fw_mid {i j : Nat} (h : 48 ≤ i) (h2 : i < 53) (e : 170 + i = j) : f_w i = j := by unfold f_w; rw [if_neg (by omega), if_pos h2]; exact e
theorem fw_hi {i j : Nat} (h : 53 ≤ i) (e : 171 + i = j) : f_w i = j := by unfold f_w; rw [if_neg (by omega), if_neg (by omega)]; exact e
theorem w_at {M : Nat → Int32} {i j : Nat} (hi : i < 62) (e : f_w i = j) : vw 62 f_w M i = M j := (vw_at hi).trans (congrArg M e)
theorem rd_W1 (γ : Gm) (w : Wd) (g : Nat → Int32) : (rdw γ (wset w 10 g)).1 (γ.1 + 87) = some (iE γ 64 (vw 62 f_w g)) := by rw [rd_W, ws_same]
theorem rd_H1 (γ : Gm) (w : Wd) (g : Nat → Int32) : (rdw γ (wset w 10 g)).1 (γ.1 + 86) = some (iE γ 40 (pkh g)) := by rw [rd_H, ws_same]
theorem up_W1 (γ : Gm) (w : Wd) (g : Nat → Int32) {i j : Nat} (hi : i < 62) (e : f_w i = j) (x : Int32) : hset (rdw γ (wset w 10 g)) (γ.1 + 87) (iE γ 64 (upd (vw 62 f_w g) i x)) = rdw γ (wset w 10 (upd g j x)) := by
  subst e
  exact up_W γ w g hi x
theorem bv_of {x y : Int32} (h : x.toBitVec.toNat = y.toBitVec.toNat) : x = y := Int32.toBitVec_inj.mp (BitVec.eq_of_toNat_eq h)
theorem sh_mul (x : Int32) {s k : Nat} (hk : ((nI s &&& 31).toBitVec.smod 32).toNat = k) {z : Nat} (hz : z < 2 ^ 32) (he : 2 ^ k = z) : x <<< (nI s &&& 31) = nI z * x := by
  refine bv_of ?_
  rw [pk_shl _ _ k hk, Int32.toBitVec_mul, BitVec.toNat_mul, pk_tn hz, he, Nat.mul_comm]
theorem sh_s (x : Int32) {s : Nat} (hs : s < 3) : x <<< (nI (10 * s) &&& 31) = (if s = 0 then nI 1 else if s = 1 then nI 1024 else nI 1048576) * x := by
  rcases (by omega : s = 0 ∨ s = 1 ∨ s = 2) with rfl | rfl | rfl
  · exact sh_mul x (k := 0) (by decide) (by decide) (by decide)
  · exact sh_mul x (k := 10) (by decide) (by decide) (by decide)
  · exact sh_mul x (k := 20) (by decide) (by decide) (by decide)
theorem up_H1 (γ : Gm) (w : Wd) (g : Nat → Int32) {c s : Nat} (hc : c < 40) (hs : s < 3) (u : Int32) : hset (rdw γ (wset w 10 g)) (γ.1 + 86) (iE γ 40 (upd (pkh g) c (pkh g c + u <<< (nI (10 * s) &&& 31)))) = rdw γ (wset w 10 (upd g (3 * c + s) (g (3 * c + s) + u))) := by
  rw [sh_s u hs]
  exact up_H γ w g hc hs u
theorem nat_of {x : Int32} (h : 0 ≤ x.toInt) {N : Nat} (h2 : x.toInt ≤ (N : Int)) : ∃ n : Nat, n ≤ N ∧ x = nI n := by
  obtain ⟨j, hj, e⟩ := nI_of (x := x) (by rw [i_lt, i_0]; omega)
  subst e
  rw [nI_toInt hj] at h2
  exact ⟨j, by omega, rfl⟩
theorem h_num {a b d s : Nat} (ha : a < 1024) (hb : b < 1024) (hd : d < 1024) (hs : s < 3) : ((nI a + nI 1024 * nI b + nI 1048576 * nI d) >>> (nI (10 * s) &&& 31)) &&& nI 1023 = if s = 0 then nI a else if s = 1 then nI b else nI d := by
  rw [pk_mul, pk_mul, nI_add, nI_add]
  rcases (by omega : s = 0 ∨ s = 1 ∨ s = 2) with rfl | rfl | rfl
  · rw [if_pos rfl, pk_shrN (by omega) _ 0 (by decide), pk_andN (by omega) 10 (by decide)]
    congr 1
    omega
  · rw [if_neg (by decide), if_pos rfl, pk_shrN (by omega) _ 10 (by decide), pk_andN (by omega) 10 (by decide)]
    congr 1
    omega
  · rw [if_neg (by decide), if_neg (by decide), pk_shrN (by omega) _ 20 (by decide), pk_andN (by omega) 10 (by decide)]
    congr 1
    omega
theorem h_get {M : Nat → Int32} (hB : HB M 1000) {c s : Nat} (hc : c < 40) (hs : s < 3) : (pkh M c >>> (nI (10 * s) &&& 31)) &&& nI 1023 = M (3 * c + s) := by
  obtain ⟨a, ha, ea⟩ := nat_of (N := 1000) (hB (3 * c + 0) (by omega)).1 (hB (3 * c + 0) (by omega)).2
  obtain ⟨b, hb, eb⟩ := nat_of (N := 1000) (hB (3 * c + 1) (by omega)).1 (hB (3 * c + 1) (by omega)).2
  obtain ⟨d, hd, ed⟩ := nat_of (N := 1000) (hB (3 * c + 2) (by omega)).1 (hB (3 * c + 2) (by omega)).2
  simp only [pkh, if_pos hc, pk3]
  rw [ea, eb, ed, h_num (by omega) (by omega) (by omega) hs]
  rcases (by omega : s = 0 ∨ s = 1 ∨ s = 2) with rfl | rfl | rfl
  · rw [if_pos rfl, ea]
  · rw [if_neg (by decide), if_pos rfl, eb]
  · rw [if_neg (by decide), if_neg (by decide), ed]
theorem upd_swap {f : Nat → Int32} {i j : Nat} (h : i ≠ j) (x z : Int32) : upd (upd f i x) j z = upd (upd f j z) i x := by
  funext a
  by_cases h1 : a = j
  · subst h1
    rw [pk_us, pk_un (Ne.symm h), pk_us]
  · rw [pk_un h1]
    by_cases h2 : a = i
    · subst h2; rw [pk_us, pk_us]
    · rw [pk_un h2, pk_un h2, pk_un h1]
/-- a mask and a remainder -/
theorem low_v (x : Int32) {n : Nat} (h0 : 0 < n) (hn : n < 2 ^ 31) : ∃ j, j < n ∧ (x &&& nI 2147483647) - (x &&& nI 2147483647) / nI n * nI n = nI j := by
  obtain ⟨a, ha, e⟩ := pk_andE x (m := nI 2147483647) 31 (by decide)
  rw [e, pk_rem ha h0 hn]
  exact ⟨a % n, Nat.mod_lt _ h0, rfl⟩
/-! what was loaded: the sum of all that there is -/
def hsum (M : Nat → Int32) : Nat → Int
  | 0 => 0
  | n + 1 => hsum M n + (M n).toInt
def lsum (M : Nat → Int32) : Nat → Int
  | 0 => 0
  | n + 1 => lsum M n + (M (120 + 8 * n)).toInt
theorem hsum_c {M N : Nat → Int32} : ∀ n, (∀ i, i < n → N i = M i) → hsum N n = hsum M n
  | 0, _ => rfl
  | n + 1, h => by
    show hsum N n + (N n).toInt = hsum M n + (M n).toInt
    rw [hsum_c n (fun i hi => h i (by omega)), h n (by omega)]
theorem lsum_c {M N : Nat → Int32} : ∀ n, (∀ i, i < n → N (120 + 8 * i) = M (120 + 8 * i)) → lsum N n = lsum M n
  | 0, _ => rfl
  | n + 1, h => by
    show lsum N n + (N (120 + 8 * n)).toInt = lsum M n + (M (120 + 8 * n)).toInt
    rw [lsum_c n (fun i hi => h i (by omega)), h n (by omega)]
theorem hsum_u (M : Nat → Int32) (x : Int32) {i : Nat} : ∀ n, i < n → hsum (upd M i x) n = hsum M n + x.toInt - (M i).toInt
  | 0, h => absurd h (by omega)
  | n + 1, h => by
    show hsum (upd M i x) n + (upd M i x n).toInt = hsum M n + (M n).toInt + x.toInt - (M i).toInt
    by_cases e : i = n
    · subst e
      rw [pk_us, hsum_c (M := M) i (fun a ha => pk_un (by omega))]; omega
    · rw [pk_un (by omega), hsum_u M x n (by omega)]; omega
theorem lsum_u (M : Nat → Int32) (x : Int32) {i : Nat} : ∀ n, i < n → lsum (upd M (120 + 8 * i) x) n = lsum M n + x.toInt - (M (120 + 8 * i)).toInt
  | 0, h => absurd h (by omega)
  | n + 1, h => by
    show lsum (upd M (120 + 8 * i) x) n + (upd M (120 + 8 * i) x (120 + 8 * n)).toInt = lsum M n + (M (120 + 8 * n)).toInt + x.toInt - (M (120 + 8 * i)).toInt
    by_cases e : i = n
    · subst e
      rw [pk_us, lsum_c (M := M) i (fun a ha => pk_un (by omega))]; omega
    · rw [pk_un (by omega), lsum_u M x n (by omega)]; omega
theorem hsum_p {M : Nat → Int32} : ∀ n, (∀ i, i < n → 0 ≤ (M i).toInt) → 0 ≤ hsum M n ∧ ∀ i, i < n → (M i).toInt ≤ hsum M n
  | 0, _ => ⟨Int.le_refl _, fun i h => absurd h (by omega)⟩
  | n + 1, h => by
    obtain ⟨a, b⟩ := hsum_p n (fun i hi => h i (by omega))
    have h9 := h n (by omega)
    refine ⟨by show 0 ≤ hsum M n + (M n).toInt; omega, fun i hi => ?_⟩
    show (M i).toInt ≤ hsum M n + (M n).toInt
    by_cases e : i = n
    · subst e; omega
    · have := b i (by omega); omega
theorem lsum_p {M : Nat → Int32} : ∀ n, (∀ i, i < n → 0 ≤ (M (120 + 8 * i)).toInt) → 0 ≤ lsum M n
  | 0, _ => Int.le_refl _
  | n + 1, h => by
    have a := lsum_p n (fun i hi => h i (by omega))
    have h9 := h n (by omega)
    show 0 ≤ lsum M n + (M (120 + 8 * n)).toInt
    omega
def IV (M : Nat → Int32) (N : Int) : Prop := (∀ i, i < 120 → 0 ≤ (M i).toInt) ∧ (∀ a, a < 6 → 0 ≤ (M (120 + 8 * a)).toInt) ∧ 0 ≤ (M 226).toInt ∧ 0 ≤ (M 227).toInt ∧ hsum M 120 + lsum M 6 + (M 226).toInt + (M 227).toInt = N
theorem IV.congr {M M' : Nat → Int32} {N : Int} (h : IV M N) (e1 : ∀ i, i < 120 → M' i = M i) (e2 : ∀ a, a < 6 → M' (120 + 8 * a) = M (120 + 8 * a)) (e3 : M' 226 = M 226) (e4 : M' 227 = M 227) : IV M' N := by
  obtain ⟨a1, a2, a3, a4, a5⟩ := h
  refine ⟨fun i hi => by rw [e1 i hi]; exact a1 i hi, fun a ha => by rw [e2 a ha]; exact a2 a ha, by rw [e3]; exact a3, by rw [e4]; exact a4, ?_⟩
  rw [hsum_c 120 e1, lsum_c 6 e2, e3, e4]
  exact a5
theorem IV.hb {M : Nat → Int32} {N : Int} (h : IV M N) (hN : N ≤ 1000) : HB M 1000 := fun i hi => by
  obtain ⟨a1, a2, a3, a4, a5⟩ := h
  have h1 := (hsum_p 120 a1).2 i hi
  have h2 := lsum_p 6 a2
  exact ⟨a1 i hi, by omega⟩
/-- a height changed -/
theorem IV_h {M : Nat → Int32} {N : Int} {i : Nat} {x : Int32} (h : IV M N) (hi : i < 120) (hx : 0 ≤ x.toInt) : IV (upd M i x) (N + x.toInt - (M i).toInt) := by
  obtain ⟨a1, a2, a3, a4, a5⟩ := h
  refine ⟨fun a ha => ?_, fun a ha => by rw [pk_un (by omega)]; exact a2 a ha, by rw [pk_un (by omega)]; exact a3, by rw [pk_un (by omega)]; exact a4, ?_⟩
  · by_cases e : a = i
    · subst e; rw [pk_us]; exact hx
    · rw [pk_un e]; exact a1 a ha
  · rw [hsum_u M x 120 hi, lsum_c (M := M) 6 (fun a ha => pk_un (by omega)), pk_un (by omega), pk_un (by omega)]; omega
theorem IV_l {M : Nat → Int32} {N : Int} {i : Nat} {x : Int32} (h : IV M N) (hi : i < 6) (hx : 0 ≤ x.toInt) : IV (upd M (120 + 8 * i) x) (N + x.toInt - (M (120 + 8 * i)).toInt) := by
  obtain ⟨a1, a2, a3, a4, a5⟩ := h
  refine ⟨fun a ha => by rw [pk_un (by omega)]; exact a1 a ha, fun a ha => ?_, by rw [pk_un (by omega)]; exact a3, by rw [pk_un (by omega)]; exact a4, ?_⟩
  · by_cases e : a = i
    · subst e; rw [pk_us]; exact hx
    · rw [pk_un (by omega)]; exact a2 a ha
  · rw [lsum_u M x 6 hi, hsum_c (M := M) 120 (fun a ha => pk_un (by omega)), pk_un (by omega), pk_un (by omega)]; omega
theorem IV_6 {M : Nat → Int32} {N : Int} {x : Int32} (h : IV M N) (hx : 0 ≤ x.toInt) : IV (upd M 226 x) (N + x.toInt - (M 226).toInt) := by
  obtain ⟨a1, a2, a3, a4, a5⟩ := h
  refine ⟨fun a ha => by rw [pk_un (by omega)]; exact a1 a ha, fun a ha => by rw [pk_un (by omega)]; exact a2 a ha, by rw [pk_us]; exact hx, by rw [pk_un (by omega)]; exact a4, ?_⟩
  rw [hsum_c (M := M) 120 (fun a ha => pk_un (by omega)), lsum_c (M := M) 6 (fun a ha => pk_un (by omega)), pk_us, pk_un (by omega)]; omega
theorem IV_7 {M : Nat → Int32} {N : Int} {x : Int32} (h : IV M N) (hx : 0 ≤ x.toInt) : IV (upd M 227 x) (N + x.toInt - (M 227).toInt) := by
  obtain ⟨a1, a2, a3, a4, a5⟩ := h
  refine ⟨fun a ha => by rw [pk_un (by omega)]; exact a1 a ha, fun a ha => by rw [pk_un (by omega)]; exact a2 a ha, by rw [pk_un (by omega)]; exact a3, by rw [pk_us]; exact hx, ?_⟩
  rw [hsum_c (M := M) 120 (fun a ha => pk_un (by omega)), lsum_c (M := M) 6 (fun a ha => pk_un (by omega)), pk_us, pk_un (by omega)]; omega
theorem IV_o {M : Nat → Int32} {N : Int} {i : Nat} {x : Int32} (h : IV M N) (h1 : 120 ≤ i) (h2 : ∀ a, a < 6 → i ≠ 120 + 8 * a) (h3 : i ≠ 226) (h4 : i ≠ 227) : IV (upd M i x) N :=
  h.congr (fun a ha => pk_un (by omega)) (fun a ha => pk_un (Ne.symm (h2 a ha))) (pk_un (Ne.symm h3)) (pk_un (Ne.symm h4))
theorem IV.eq {M : Nat → Int32} {N N' : Int} (h : IV M N) (e : N = N') : IV M N' := e ▸ h
theorem IV.le6 {M : Nat → Int32} {N : Int} (h : IV M N) : (M 226).toInt ≤ N ∧ (M 227).toInt ≤ N := by
  obtain ⟨a1, a2, a3, a4, a5⟩ := h
  have h1 := (hsum_p 120 a1).1
  have h2 := lsum_p 6 a2
  omega
theorem IV_falls {M : Nat → Int32} {cn w d : Nat} {N : Int} (ht : TP M cn) (h : IV M N) (hN : N ≤ 1000) (hw : w < 6) (hd : d < 3) : IV (q_falls M w d) N := by
  have a1 := u_in ht hw hd
  have a2 := ht.2.1 w hw
  have hl := h.2.1 w hw
  have e1 : (M (120 + 8 * w) - q_u M w d).toInt = _ := i_sub (by omega) (by omega)
  have h1 : IV (q_f1 M w d) (N - (q_u M w d).toInt) := (IV_l h hw (x := M (120 + 8 * w) - q_u M w d) (by omega)).eq (by omega)
  have h2 : IV (q_f2 M w d) (N - (q_u M w d).toInt) := IV_o h1 (by omega) (fun a ha => by omega) (by omega) (by omega)
  have hb := h2.hb (by omega)
  unfold q_falls
  split
  · rename_i hh
    obtain ⟨c, hc, e⟩ := in_nat (by decide) hh
    rw [e, nI_clamp (by omega)]
    have a3 := hb (3 * c + d) (by omega)
    have e2 : (q_f2 M w d (3 * c + d) + q_u M w d).toInt = _ := i_add (by omega) (by omega)
    exact (IV_h h2 (by omega) (by omega)).eq (by omega)
  · have a3 := h2.2.2.1
    have a4 := h2.le6.1
    have e2 : (q_f2 M w d 226 + q_u M w d).toInt = _ := i_add (by omega) (by omega)
    exact (IV_6 h2 (by omega)).eq (by omega)
theorem IV_fallsN {M : Nat → Int32} {cn : Nat} {N : Int} (h6 : cn ≤ 6) (ht : TP M cn) (h : IV M N) (hN : N ≤ 1000) : ∀ n, n ≤ 3 * cn → TP (q_fallsN M n) cn ∧ IV (q_fallsN M n) N
  | 0, _ => ⟨ht, h⟩
  | n + 1, hn => by
    obtain ⟨a, b⟩ := IV_fallsN h6 ht h hN n (by omega)
    exact ⟨TP_falls a (by omega) h6 (by omega), IV_falls a b hN (by omega) (by omega)⟩
theorem unit_in {a b z : Int32} (ha : 0 ≤ a.toInt) (ha2 : a.toInt ≤ 1000) (hb : 0 ≤ b.toInt) (hb2 : b.toInt ≤ 1000) (hz : 0 ≤ z.toInt) : -1 ≤ (q_unit (a - b) z).toInt ∧ (q_unit (a - b) z).toInt ≤ 1 ∧ (q_unit (a - b) z).toInt ≤ a.toInt ∧ -(q_unit (a - b) z).toInt ≤ b.toInt := by
  have eb : (a - b).toInt = _ := i_sub (by omega) (by omega)
  have en : (-(a - b)).toInt = _ := i_neg (by omega)
  unfold q_unit
  split
  · rename_i g1
    rw [i_le] at g1
    split
    · rw [i_nI (by decide)]
      omega
    · rename_i g2
      rw [i_le] at g2
      rw [i_m1]
      omega
  · rename_i g1
    rw [i_le] at g1
    rw [i_nI (by decide)]
    omega
theorem IV_slides {M : Nat → Int32} {c s : Nat} {N : Int} (h : IV M N) (hN : N ≤ 1000) (hc : c < 39) (hs : s < 3) (hz : 0 ≤ (M 228).toInt) : IV (q_slides M c s) N := by
  have hb := h.hb hN
  have b1 := hb (3 * c + s) (by omega)
  have b2 := hb (3 * c + 3 + s) (by omega)
  have hu := unit_in b1.1 b1.2 b2.1 b2.2 hz
  unfold q_slides q_s1 q_by
  obtain ⟨u, hue⟩ : ∃ u, u = q_unit (M (3 * c + s) - M (3 * c + 3 + s)) (M 228) := ⟨_, rfl⟩
  rw [← hue] at hu ⊢
  have e1 : (M (3 * c + s) - u).toInt = _ := i_sub (by omega) (by omega)
  have h1 := IV_h h (i := 3 * c + s) (x := M (3 * c + s) - u) (by omega) (by omega)
  have e2 : (upd M (3 * c + s) (M (3 * c + s) - u) (3 * c + 3 + s)) = M (3 * c + 3 + s) := pk_un (by omega)
  rw [e2]
  have e3 : (M (3 * c + 3 + s) + u).toInt = _ := i_add (by omega) (by omega)
  refine (IV_h h1 (by omega) (by omega)).eq ?_
  rw [e2]; omega
theorem IV_slidesN {M : Nat → Int32} {N : Int} (h : IV M N) (hN : N ≤ 1000) (hz : 0 ≤ (M 228).toInt) : ∀ n, n ≤ 117 → IV (q_slidesN M n) N
  | 0, _ => h
  | n + 1, hn => IV_slides (M := q_slidesN M n) (IV_slidesN h hN hz n (by omega)) hN (by omega) (by omega) (by rw [q_slidesN_off M (by omega) (by omega)]; exact hz)
theorem IV_spills {M : Nat → Int32} {c s : Nat} {N : Int} (h : IV M N) (hN : N ≤ 1000) (hc : c < 40) (hs : s < 3) (hl : 0 ≤ (M 229).toInt) : IV (q_spills M c s) N := by
  have hb := h.hb hN
  have b1 := hb (3 * c + s) (by omega)
  have z2 := Int32.toInt_lt (M 229)
  have e1 : (M (3 * c + s) - M 229).toInt = _ := i_sub (by omega) (by omega)
  unfold q_spills q_p1 q_pos q_over
  split
  · rw [nI_0, Int32.sub_zero, Int32.add_zero, upd_same rfl, upd_same rfl]; exact h
  · rename_i g1
    rw [i_le, i_0] at g1
    have e2 : (M (3 * c + s) - (M (3 * c + s) - M 229)).toInt = _ := i_sub (by omega) (by omega)
    have h1 := IV_h h (i := 3 * c + s) (x := M (3 * c + s) - (M (3 * c + s) - M 229)) (by omega) (by omega)
    have e3 : (upd M (3 * c + s) (M (3 * c + s) - (M (3 * c + s) - M 229)) 226) = M 226 := pk_un (by omega)
    rw [e3]
    have h6 := h.2.2.1
    have h7 := h.le6.1
    have e4 : (M 226 + (M (3 * c + s) - M 229)).toInt = _ := i_add (by omega) (by omega)
    refine (IV_6 h1 (by omega)).eq ?_
    rw [e3]; omega
theorem IV_spillsN {M : Nat → Int32} {N : Int} (h : IV M N) (hN : N ≤ 1000) (hl : 0 ≤ (M 229).toInt) : ∀ n, n ≤ 40 → IV (q_spillsN M n) N
  | 0, _ => h
  | n + 1, hn => by
    have e0 : q_spillsN M n 229 = M 229 := q_spillsN_off M (by omega) (by omega) (by omega)
    have h1 := IV_spills (M := q_spillsN M n) (IV_spillsN h hN hl n (by omega)) hN (c := n) (s := 0) (by omega) (by omega) (by rw [e0]; exact hl)
    exact IV_spills (M := q_spills (q_spillsN M n) n 0) h1 hN (by omega) (by omega) (by rw [q_spills_off _ (by omega) (by omega) (by omega) (by omega), e0]; exact hl)
theorem IV_closes {M : Nat → Int32} {w d : Nat} {N : Int} (h : IV M N) (hw : w < 6) (hd : d < 3) : IV (q_closes M w d) N := by
  unfold q_closes q_c1
  split
  · split
    · exact IV_o (IV_o (IV_o h (by omega) (fun a ha => by omega) (by omega) (by omega)) (by omega) (fun a ha => by omega) (by omega) (by omega)) (by omega) (fun a ha => by omega) (by omega) (by omega)
    · exact h
  · exact IV_o h (by omega) (fun a ha => by omega) (by omega) (by omega)
theorem IV_closesN {M : Nat → Int32} {N : Int} (h : IV M N) : ∀ n, n ≤ 18 → IV (q_closesN M n) N
  | 0, _ => h
  | n + 1, hn => IV_closes (M := q_closesN M n) (IV_closesN h n (by omega)) (by omega) (by omega)
theorem pre_0 {M : Nat → Int32} {cn : Nat} {B : Int} (hv : VS M cn 0 B) : q_pre M = q_place (q_speed M) := (VS_pre hv).1
theorem IV_pre {M : Nat → Int32} {cn : Nat} {B N : Int} (hv : VS M cn 0 B) (h : IV M N) : IV (q_pre M) N := by
  rw [pre_0 hv]
  exact h.congr (fun i hi => q_pp_off M (by omega) (by omega)) (fun a ha => q_pp_off M (by omega) (by omega)) (q_pp_off M (by omega) (by omega)) (q_pp_off M (by omega) (by omega))
theorem IV_second {M : Nat → Int32} {cn : Nat} {B N : Int} (hv : VS M cn 0 B) (h : IV M N) (hN : N ≤ 1000) : IV (q_second M) N := by
  obtain ⟨-, q', hq, hV⟩ := VS_pre hv
  have h6 := hv.1.2.2
  have hc := hv.1.1
  obtain ⟨t1, i1⟩ := IV_fallsN h6 hV.2.2.1 (IV_pre hv h) hN (3 * cn) (by omega)
  have es : ∀ i, 228 ≤ i → i < 233 → q_fallsN (q_pre M) (3 * cn) i = q_pre M i := fun i h3 h4 => q_fallsN_off _ (by omega) (by omega) (by omega)
  have i2 := IV_slidesN i1 hN (by rw [es _ (by omega) (by omega)]; exact SR_0 hV.2.2.2.2) 117 (Nat.le_refl _)
  have i3 := IV_spillsN i2 hN (by rw [q_slidesN_off _ (by omega) (by omega), es _ (by omega) (by omega)]; exact SR_1 hV.2.2.2.2) 40 (Nat.le_refl _)
  have i4 : IV (q_sec1 M cn) N := IV_closesN i3 (3 * cn) (by omega)
  rw [q_second1 hc h6]
  exact IV_o i4 (by omega) (fun a ha => by omega) (by omega) (by omega)
