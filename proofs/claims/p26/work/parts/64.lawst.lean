/-! the class and the law's rows side by side -/
theorem CI.b10 {γ : Gm} {W : Wd} {N : Nat → Int32} {c : Nat} {M P T : Nat → Int32} {u t cn q tm : Nat} (h : CI γ (wset W 10 N) c M P T u t cn q tm) (N' : Nat → Int32) : CI γ (wset W 10 N') c M P T u t cn q tm := by
  have hE : Ext (wset W 10 N) (wset W 10 N') := ⟨Nat.le_refl _, fun _ _ => rfl, rfl⟩
  exact h.gen (Nat.le_refl _) hE (fun b hb _ _ => (ws_ne _ _ (by omega)).trans (ws_ne _ _ (by omega)).symm) (fun _ _ _ => rfl) (h.2.2.2.1.ext hE rfl) (h.2.2.2.2.1.ext hE rfl) (h.2.2.2.2.2.2.1.fr ((ws_ne _ _ (by omega)).trans (ws_ne _ _ (by omega)).symm))
theorem mut_ok {l : Launch} {γ : Gm} {y : MethodName} {cc : ByteArray} {mL : Nat} {ret : Option FieldType} {fr lc mc ms : Nat} {av : List Value} {W : Wd} {N : Nat → Int32} {E : Int32} {OK : Prop} {c : Nat} {M2 P2 T2 : Nat → Int32} {u2 t2 : Nat} (C : Cr l γ y cc mL ret fr lc mc ms av (rdw γ (wset W 10 N)) (fun v h' => v = some (.int E) ∧ ((OK ∧ ∃ (W' : Wd) (cn2 q2 tm2 : Nat), h' = rdw γ W' ∧ CI γ W' c M2 P2 T2 u2 t2 cn2 q2 tm2 ∧ RB (wset W 10 N) W') ∨ (¬ OK ∧ h' = rdw γ (wset W 10 N))))) (ok : OK) {r : Int32} (e : E = r) : Cr l γ y cc mL ret fr lc mc ms av (rdw γ (wset W 10 N)) (fun v h' => v = some (.int r) ∧ ∃ (W2 : Wd) (cn2 tm2 : Nat), h' = rdw γ (wset W2 10 N) ∧ CI γ (wset W2 10 N) c M2 P2 T2 u2 t2 cn2 0 tm2) := by
  subst e
  refine Cr_wk C (Nat.le_refl _) (Nat.le_refl _) (Nat.le_refl _) (Nat.le_refl _) ?_
  rintro v x ⟨hv, ⟨-, W', cn2, q2, tm2, rfl, hI, hR⟩ | ⟨no, -⟩⟩
  · have e10 : W'.1 10 = N := (hR 10 (by decide)).trans (ws_same _ _ _)
    have eW : wset W' 10 N = W' := by rw [← e10, wset_self]
    have hq := hI.2.2.1.q0
    subst hq
    exact ⟨hv, W', cn2, tm2, by rw [eW], by rw [eW]; exact hI⟩
  · exact absurd ok no
theorem mut_no {l : Launch} {γ : Gm} {y : MethodName} {cc : ByteArray} {mL : Nat} {ret : Option FieldType} {fr lc mc ms : Nat} {av : List Value} {W : Wd} {E : Int32} {OK : Prop} {c : Nat} {M2 P2 T2 : Nat → Int32} {u2 t2 : Nat} (C : Cr l γ y cc mL ret fr lc mc ms av (rdw γ W) (fun v h' => v = some (.int E) ∧ ((OK ∧ ∃ (W' : Wd) (cn2 q2 tm2 : Nat), h' = rdw γ W' ∧ CI γ W' c M2 P2 T2 u2 t2 cn2 q2 tm2 ∧ RB W W') ∨ (¬ OK ∧ h' = rdw γ W)))) (no : ¬ OK) {r : Int32} (e : E = r) : Cr l γ y cc mL ret fr lc mc ms av (rdw γ W) (Det (some (.int r)) (rdw γ W)) := by
  subst e
  refine Cr_wk C (Nat.le_refl _) (Nat.le_refl _) (Nat.le_refl _) (Nat.le_refl _) ?_
  rintro v x ⟨hv, ⟨ok, -⟩ | ⟨-, hx⟩⟩
  · exact absurd ok no
  · exact ⟨hv, hx⟩
/-- what holds between two steps of the law -/
def LI (γ : Gm) (W : Wd) (c : Nat) (M : Nat → Int32) (cn tm : Nat) : Prop := (∃ (P T : Nat → Int32) (u t : Nat), CI γ (wset W 10 M) c M P T u t cn 0 tm) ∧ tm ≤ 30 * c ∧ IV M (M 225).toInt ∧ (M 225).toInt ≤ 1000
def SP (γ : Gm) (nc kn : Nat) : Option Value → HP → Prop := fun v h' => v = some (.int (nI 1)) ∧ ∃ (W2 : Wd) (M2 : Nat → Int32) (cn2 tm2 : Nat), h' = rdw γ (wset W2 10 M2) ∧ LI γ W2 (nc + 1) M2 cn2 tm2 ∧ (kn = 0 ∨ cn2 = kn)
theorem SP_mk {γ : Gm} {W : Wd} {nc cn tm k kn : Nat} {N P T : Nat → Int32} {u t : Nat} (h : CI γ (wset W 10 N) (nc + 1) N P T u t cn 0 tm) (e : N 222 = nI k) (hk : k ≤ 30 * (nc + 1)) (hnc : nc < 100) (hi : IV N (N 225).toInt) (h9 : (N 225).toInt ≤ 1000) (hk9 : kn = 0 ∨ N 218 = nI kn ∧ kn ≤ 6) : SP γ nc kn (some (.int (nI 1))) (rdw γ (wset W 10 N)) := by
  have h2 := h.2.1.2
  have e2 : tm = k := by
    have e3 := h2.1.symm.trans e
    exact (nI_eq (by omega) (by omega)).mp e3
  have hc9 := h.2.1.1.1
  have ek : kn = 0 ∨ cn = kn := hk9.elim Or.inl (fun z => Or.inr ((nI_eq (by omega) (by omega)).mp (hc9.1.symm.trans z.1)))
  exact ⟨rfl, W, N, cn, tm, rfl, ⟨⟨P, T, u, t, h⟩, by omega, hi, h9⟩, ek⟩
theorem LI.mono {γ : Gm} {W : Wd} {c cn tm : Nat} {M : Nat → Int32} (h : LI γ W c M cn tm) : LI γ W (c + 1) M cn tm := by
  obtain ⟨⟨P, T, u, t, hI⟩, h2, h3⟩ := h
  exact ⟨⟨P, T, u, t, hI.mono (Nat.le_succ c)⟩, by omega, h3⟩
theorem LI.sp {γ : Gm} {W : Wd} {c cn tm : Nat} {M : Nat → Int32} (h : LI γ W c M cn tm) : SP γ c cn (some (.int (nI 1))) (rdw γ (wset W 10 M)) := ⟨rfl, W, M, cn, tm, rfl, h.mono, Or.inr rfl⟩
/-! sums -/
theorem oi_add (a b : Int) : Int32.ofInt (a + b) = Int32.ofInt a + Int32.ofInt b := Int32.ofInt_add a b
theorem oi_to (x : Int32) : Int32.ofInt x.toInt = x := Int32.ofInt_toInt x
theorem inW_of (M : Nat → Int32) : ∀ n, s_inW M n = Int32.ofInt (lsum M n)
  | 0 => by show nI 0 = Int32.ofInt 0; decide
  | n + 1 => by
    show s_inW M n + M (120 + 8 * n + 0) = Int32.ofInt (lsum M n + (M (120 + 8 * n)).toInt)
    rw [oi_add, oi_to, inW_of M n]
    rfl
theorem c_sum_of (M : Nat → Int32) : ∀ n, c_sum M n = Int32.ofInt (hsum M n)
  | 0 => by show nI 0 = Int32.ofInt 0; decide
  | n + 1 => by
    show c_sum M n + M n = Int32.ofInt (hsum M n + (M n).toInt)
    rw [oi_add, oi_to, c_sum_of M n]
theorem inW_int {M : Nat → Int32} {N : Int} (h : IV M N) (hN : N ≤ 1000) : (s_inW M 6).toInt = lsum M 6 ∧ 0 ≤ lsum M 6 := by
  obtain ⟨a1, a2, a3, a4, a5⟩ := h
  have h1 := (hsum_p 120 a1).1
  have h2 := lsum_p 6 a2
  refine ⟨?_, h2⟩
  rw [inW_of, Int32.toInt_ofInt]
  exact i_bm (by omega) (by omega)
theorem inW_cn {M : Nat → Int32} {cn : Nat} (h : NW M cn) : ∀ n, n ≤ 6 → s_inW M n = s_inW M (if n ≤ cn then n else cn)
  | 0, _ => by rw [if_pos (Nat.zero_le _)]
  | n + 1, hn => by
    have ih := inW_cn h n (by omega)
    by_cases z : n + 1 ≤ cn
    · rw [if_pos z]
    · rw [if_neg z]
      show s_inW M n + M (120 + 8 * n + 0) = _
      have h0 : M (120 + 8 * n) = 0 := (h n (by omega) (by omega)).1
      rw [ih, show M (120 + 8 * n + 0) = 0 from h0, Int32.add_zero]
      by_cases z2 : n ≤ cn
      · rw [if_pos z2, show n = cn by omega]
      · rw [if_neg z2]
theorem inW_6 {M : Nat → Int32} {cn : Nat} (h : NW M cn) (h6 : cn ≤ 6) : s_inW M 6 = s_inW M cn := by
  rw [inW_cn h 6 (Nat.le_refl _)]
  by_cases z : 6 ≤ cn
  · rw [if_pos z, show cn = 6 by omega]
  · rw [if_neg z]
theorem all_eq {M : Nat → Int32} (h : IV M (M 225).toInt) : M 225 = s_inW M 6 + s_sum M 0 40 + s_sum M 1 40 + s_sum M 2 40 + M 226 + M 227 := by
  have h5 := congrArg Int32.ofInt h.2.2.2.2
  rw [oi_add, oi_add, oi_add, oi_to, oi_to, oi_to, ← inW_of, ← c_sum_of, show (120 : Nat) = 3 * 40 from rfl, c_sum3] at h5
  rw [← h5]
  ac_rfl
/-! the changes keep the sum -/
theorem IV_moves {M : Nat → Int32} {N : Int} (h : IV M N) {a b : Nat} (ha : a < 6) (hb : b < 3) (x : Int32) : IV (q_moves M a b x) N := by
  unfold q_moves
  split
  · split
    · exact h
    · exact IV_o h (by omega) (fun z hz => by omega) (by omega) (by omega)
  · exact IV_o (IV_o h (by omega) (fun z hz => by omega) (by omega) (by omega)) (by omega) (fun z hz => by omega) (by omega) (by omega)
theorem mov_hi (M : Nat → Int32) {a b i : Nat} (x : Int32) (ha : a < 6) (hb : b < 3) (hi : 168 ≤ i) : q_moves M a b x i = M i := q_moves_off M x ha hb (Or.inr hi)
theorem secs_iv {M : Nat → Int32} {cn tm : Nat} {N : Int} (hv : VT M cn 0 tm) (h : IV M N) (hN : N ≤ 1000) : ∀ n, tm + n ≤ 9999 → VT (s_secs M n) cn 0 (tm + n) ∧ IV (s_secs M n) N ∧ s_secs M n 225 = M 225
  | 0, _ => ⟨hv, h, rfl⟩
  | n + 1, hn => by
    obtain ⟨a, b, c⟩ := secs_iv hv h hN n (by omega)
    obtain ⟨q', hq, hV⟩ := VT_pass hv (n + 1) hn
    have e0 : q' = 0 := by omega
    subst e0
    refine ⟨hV, IV_second a.1 b hN, ?_⟩
    show q_second (s_secs M n) 225 = M 225
    rw [q_second_off a.1.vm (by omega) (by omega) (by omega) (by omega) (by omega) (by omega) (by omega) (by omega)]
    exact c
theorem IV_scr {M : Nat → Int32} {N : Int} (h : IV M N) (hN : N ≤ 1000) {i : Nat} (hi : i < 120) {u : Int32} (h0 : 0 ≤ u.toInt) (hu : u.toInt ≤ (M i).toInt) : IV (upd (upd M i (M i - u)) 227 (upd M i (M i - u) 227 + u)) N := by
  have hb := h.hb hN i hi
  have e1 : (M i - u).toInt = _ := i_sub (by omega) (by omega)
  have h1 := IV_h h hi (x := M i - u) (by omega)
  have e2 : upd M i (M i - u) 227 = M 227 := pk_un (by omega)
  have h7 := h.2.2.2.1
  have h8 := h.le6.2
  rw [e2]
  have e3 : (M 227 + u).toInt = _ := i_add (by omega) (by omega)
  refine (IV_7 h1 (by omega)).eq ?_
  rw [e2]; omega
theorem smin_in {z : Nat} {x : Int32} (hz : z ≤ 60) (hx : 0 ≤ x.toInt) : 0 ≤ (s_min (nI z) x).toInt ∧ (s_min (nI z) x).toInt ≤ x.toInt := by
  unfold s_min
  split
  · rename_i g
    rw [i_lt, i_nI (by omega)] at g
    rw [i_nI (by omega)]; omega
  · omega
theorem IV_couples {M : Nat → Int32} {N : Int} (h : IV M N) (hN : N ≤ 1000) (x : Int32) : IV (q_couples (upd M 227 (M 227 + s_inW M 6)) x) N := by
  obtain ⟨e6, p6⟩ := inW_int h hN
  obtain ⟨a1, a2, a3, a4, a5⟩ := h
  have h1 := (hsum_p 120 a1).1
  have e7 : (M 227 + s_inW M 6).toInt = _ := i_add (by omega) (by omega)
  have c0 : ∀ a, a < 6 → q_couples (upd M 227 (M 227 + s_inW M 6)) x (120 + 8 * a) = 0 := fun a ha => by
    rw [cou_in (by omega) (by omega)]
    unfold q_cl
    rw [if_pos (by omega)]
    exact nI_0
  have ch : ∀ i, i < 120 → q_couples (upd M 227 (M 227 + s_inW M 6)) x i = M i := fun i hi => by rw [cou_off (by omega) (by omega) (by omega) (by omega) (by omega), pk_un (by omega)]
  have c6 : q_couples (upd M 227 (M 227 + s_inW M 6)) x 226 = M 226 := by rw [cou_off (by omega) (by omega) (by omega) (by omega) (by omega), pk_un (by omega)]
  have c7 : q_couples (upd M 227 (M 227 + s_inW M 6)) x 227 = M 227 + s_inW M 6 := by rw [cou_off (by omega) (by omega) (by omega) (by omega) (by omega), pk_us]
  refine ⟨fun i hi => by rw [ch i hi]; exact a1 i hi, fun a ha => by rw [c0 a ha]; decide, by rw [c6]; exact a3, by rw [c7]; omega, ?_⟩
  have l0 : lsum (q_couples (upd M 227 (M 227 + s_inW M 6)) x) 6 = 0 := by
    have hz : ∀ n, n ≤ 6 → lsum (q_couples (upd M 227 (M 227 + s_inW M 6)) x) n = 0 := by
      intro n
      induction n with
      | zero => intro _; rfl
      | succ n ih =>
        intro hn
        show lsum _ n + (q_couples (upd M 227 (M 227 + s_inW M 6)) x (120 + 8 * n)).toInt = 0
        rw [ih (by omega), c0 n (by omega)]; decide
    exact hz 6 (Nat.le_refl _)
  rw [hsum_c (M := M) 120 ch, l0, c6, c7]; omega
theorem IV_load {M : Nat → Int32} {a z : Nat} (h : IV M (M 225).toInt) (hN : (M 225).toInt ≤ 1000) (ha : a < 6) (hz : z ≤ 200) (h9 : M 225 + nI z ≤ nI 1000) : IV (upd (upd M (120 + 8 * a + 0) (M (120 + 8 * a + 0) + nI z)) 225 (M 225 + nI z)) (upd (upd M (120 + 8 * a + 0) (M (120 + 8 * a + 0) + nI z)) 225 (M 225 + nI z) 225).toInt ∧ (upd (upd M (120 + 8 * a + 0) (M (120 + 8 * a + 0) + nI z)) 225 (M 225 + nI z) 225).toInt ≤ 1000 := by
  have p1 := (hsum_p 120 h.1).1
  have p2 := lsum_p 6 h.2.1
  have h5 := h.2.2.2.2
  have h3 := h.2.2.1
  have h4 := h.2.2.2.1
  have hl := h.2.1 a ha
  have iz : (nI z).toInt = z := i_nI (by omega)
  have e5 : (M 225 + nI z).toInt = _ := i_add (by omega) (by omega)
  rw [i_le, e5, iz, i_nI (by decide)] at h9
  rw [pk_us, e5, iz]
  have hlb : (M (120 + 8 * a)).toInt ≤ 1000 := by
    have hz0 : ∀ n, n ≤ 6 → (∀ b, b < n → (M (120 + 8 * b)).toInt ≤ lsum M n) := by
      intro n
      induction n with
      | zero => intro _ b hb; omega
      | succ n ih =>
        intro hn b hb
        show _ ≤ lsum M n + (M (120 + 8 * n)).toInt
        have q1 := h.2.1 n (by omega)
        have q2 := lsum_p (M := M) n (fun i hi => h.2.1 i (by omega))
        by_cases e : b = n
        · subst e; omega
        · have := ih (by omega) b (by omega); omega
    have := hz0 6 (Nat.le_refl _) a ha
    omega
  have el : (M (120 + 8 * a) + nI z).toInt = _ := i_add (by omega) (by omega)
  have h1 := IV_l h ha (x := M (120 + 8 * a) + nI z) (by omega)
  refine ⟨(IV_o h1 (by omega) (fun b hb => by omega) (by omega) (by omega)).eq (by omega), by omega⟩
/-! what the class tells -/
theorem sw_in {M : Nat → Int32} {cn a j : Nat} (ha : a < cn) (h6 : cn ≤ 6) (hj : j ≤ 4) : s_wag M cn (nI a) (nI j) = s_wagN M a j := by
  unfold s_wag
  rw [if_pos (nI_in0 (by omega) (by omega)), if_pos (nI_in0 hj (by decide)), nI_clamp (by omega), nI_clamp (by omega)]
theorem sd_in {M : Nat → Int32} {cn a b j : Nat} (ha : a < cn) (h6 : cn ≤ 6) (hb : b < 3) (hj : j ≤ 1) : s_door M cn (nI a) (nI b) (nI j) = M (120 + 8 * a + ((if j = 0 then 2 else 5) + b)) := by
  unfold s_door
  rw [if_pos (nI_in0 (by omega) (by omega)), if_pos (nI_in0 (by omega) (by decide)), if_pos (nI_in0 hj (by decide)), nI_clamp (by omega), nI_clamp (by omega)]
  rcases (by omega : j = 0 ∨ j = 1) with rfl | rfl
  · rw [if_pos (by decide), if_pos rfl]
  · rw [if_neg (by decide), if_neg (by decide)]
theorem sh_in {M : Nat → Int32} {a b : Nat} (ha : a < 40) (hb : b < 3) : s_height M (nI a) (nI b) = M (3 * a + b) := by
  unfold s_height
  rw [if_pos (nI_in0 (by omega) (by decide)), if_pos (nI_in0 (by omega) (by decide)), nI_clamp (by omega), nI_clamp (by omega)]
theorem sc_in {M : Nat → Int32} {cn u t j : Nat} (hj : j ≤ 18) : s_count M cn u t (nI j) = s_countN M cn u t j := by
  unfold s_count
  rw [if_pos (nI_in0 hj (by decide)), nI_clamp (by omega)]
theorem sc_lo {M : Nat → Int32} {cn u t j : Nat} (hj : j < 8) : s_count M cn u t (nI j) = M (218 + j) := by
  rw [sc_in (by omega)]
  unfold s_countN
  rw [if_pos hj]
theorem sc_hi {M : Nat → Int32} {cn u t j : Nat} (hj : j < 5) : s_count M cn u t (nI (14 + j)) = M (228 + j) := by
  rw [sc_in (by omega)]
  unfold s_countN
  rw [if_neg (by omega), if_neg (by omega), if_neg (by omega), if_neg (by omega), if_neg (by omega), if_neg (by omega), if_neg (by omega), show 228 + (14 + j) - 14 = 228 + j by omega]
theorem sc_19 {M : Nat → Int32} {cn u t : Nat} : s_count M cn u t (nI 19) = (-1002) := by
  unfold s_count
  rw [if_neg (by decide)]
theorem sw_out0 {M : Nat → Int32} {cn : Nat} (h1 : 1 ≤ cn) (h6 : cn ≤ 6) (j : Int32) : s_wag M cn (nI cn) j = (-1002) := by
  unfold s_wag
  rw [if_neg (fun z => z.2 ((nI_ltI (by omega) (by omega)).mpr (by omega)))]
theorem sh_40 {M : Nat → Int32} (j : Int32) : s_height M (nI 40) j = (-1002) := by
  unfold s_height
  rw [if_neg (by decide)]
def t_lev (M : Nat → Int32) (a : Nat) : Nat → Int32
  | 0 => nI 0
  | n + 1 => t_lev M a n + M (120 + 8 * a + (2 + n))
theorem t_lev3 (M : Nat → Int32) (a : Nat) : s_wagN M a 2 = t_lev M a 3 := by
  show M (120 + 8 * a + 2) + M (120 + 8 * a + 3) + M (120 + 8 * a + 4) = nI 0 + M (120 + 8 * a + (2 + 0)) + M (120 + 8 * a + (2 + 1)) + M (120 + 8 * a + (2 + 2))
  rw [nI_0, Int32.zero_add]
theorem ms_201 : ∀ j, j < 5 → mstS j < nI 201 := by decide
