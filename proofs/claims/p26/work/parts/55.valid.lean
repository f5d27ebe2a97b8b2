/-! what the changes keep in order -/
theorem VT.of {M N : Nat → Int32} {cn q tm : Nat} (h : VT M cn q tm) (h1 : ∀ i, 168 ≤ i → i < 233 → (i < 219 ∨ i = 222 ∨ i = 223 ∨ 228 ≤ i) → N i = M i) (ht : TP N cn) (hb : HB N (3600 * tm)) : VT N cn q tm :=
  ⟨⟨⟨(h1 _ (by omega) (by omega) (by omega)).trans h.1.1.1, h.1.1.2⟩, h.1.2.1.congr (fun i a b => h1 i a (by omega) (by omega)) (h1 _ (by omega) (by omega) (by omega)), ht, hb, h.1.2.2.2.2.congr fun i a b => h1 i (by omega) b (by omega)⟩, (h1 _ (by omega) (by omega) (by omega)).trans h.2.1, h.2.2⟩
theorem VT.upd {M : Nat → Int32} {cn q tm k : Nat} {x : Int32} (h : VT M cn q tm) (h1 : 219 ≤ k) (h2 : k < 228) (h3 : k ≠ 222) (h4 : k ≠ 223) : VT (upd M k x) cn q tm :=
  h.of (fun i a b c => pk_un (by omega)) (h.1.2.2.1.congr fun i a b => pk_un (by omega)) (h.1.2.2.2.1.congr fun i a => pk_un (by omega))
theorem VT_set {M : Nat → Int32} {cn q tm j : Nat} {z : Int32} (h : VT M cn q tm) (hj : j < 5) (h1 : ¬ z < lstS j) (h2 : ¬ mstS j < z) : VT (upd M (228 + j) z) cn q tm := by
  refine ⟨⟨⟨(pk_un (by omega)).trans h.1.1.1, h.1.1.2⟩, h.1.2.1.congr (fun i a b => pk_un (by omega)) (pk_un (by omega)), h.1.2.2.1.congr fun i a b => pk_un (by omega), h.1.2.2.2.1.congr fun i a => pk_un (by omega), fun k hk => ?_⟩, (pk_un (by omega)).trans h.2.1, h.2.2⟩
  by_cases e : k = j
  · subst e
    rw [pk_us]
    rw [i_lt] at h1 h2
    omega
  · rw [pk_un (by omega)]; exact h.1.2.2.2.2 k hk
theorem cou_off {M : Nat → Int32} {x : Int32} {i : Nat} (h : i < 120 ∨ 168 ≤ i) (h1 : i ≠ 218) (h2 : i ≠ 219) (h3 : i ≠ 220) (h4 : i ≠ 221) : q_couples M x i = M i := by
  unfold q_couples
  rw [pk_un h4, pk_un h3, pk_un h2, pk_un h1]
  simp only [q_clrN]
  rw [if_neg (by omega)]
theorem cou_in {M : Nat → Int32} {x : Int32} {i : Nat} (h : 120 ≤ i) (h2 : i < 168) : q_couples M x i = q_cl i := by
  unfold q_couples
  rw [pk_un (by omega), pk_un (by omega), pk_un (by omega), pk_un (by omega)]
  simp only [q_clrN]
  rw [if_pos (by omega)]
theorem cou_218 {M : Nat → Int32} {x : Int32} : q_couples M x 218 = x := by
  unfold q_couples
  rw [pk_un (by decide), pk_un (by decide), pk_un (by decide), pk_us]
theorem cou_227 (M : Nat → Int32) (x v : Int32) : upd (q_couples M x) 227 v = q_couples (upd M 227 v) x := by
  funext i
  by_cases h : i = 227
  · subst h; rw [pk_us, cou_off (by omega) (by omega) (by omega) (by omega) (by omega), pk_us]
  · rw [pk_un h]
    by_cases h2 : 120 ≤ i ∧ i < 168
    · rw [cou_in h2.1 h2.2, cou_in h2.1 h2.2]
    · unfold q_couples
      have e : q_clrN M 48 i = q_clrN (upd M 227 v) 48 i := by
        simp only [q_clrN]
        rw [if_neg (by omega), if_neg (by omega), pk_un h]
      by_cases a1 : i = 221
      · subst a1; rw [pk_us, pk_us]
      · rw [pk_un a1, pk_un a1]
        by_cases a2 : i = 220
        · subst a2; rw [pk_us, pk_us]
        · rw [pk_un a2, pk_un a2]
          by_cases a3 : i = 219
          · subst a3; rw [pk_us, pk_us]
          · rw [pk_un a3, pk_un a3]
            by_cases a4 : i = 218
            · subst a4; rw [pk_us, pk_us]
            · rw [pk_un a4, pk_un a4, e]
theorem TP_clr {N : Nat → Int32} (cn : Nat) (h : ∀ i, 120 ≤ i → i < 168 → N i = q_cl i) : TP N cn := by
  refine ⟨fun w d hw hd => ?_, fun w hw => ?_, fun a ha h6 => ⟨?_, fun d hd => ⟨?_, ?_⟩⟩⟩
  · rw [h _ (by omega) (by omega)]; unfold q_cl; rw [if_pos (by omega)]; decide
  · rw [h _ (by omega) (by omega)]; unfold q_cl; rw [if_pos (by omega)]; decide
  · rw [h _ (by omega) (by omega)]; unfold q_cl; rw [if_pos (by omega)]; decide
  · rw [h _ (by omega) (by omega)]; unfold q_cl; rw [if_pos (by omega)]; decide
  · rw [h _ (by omega) (by omega)]; unfold q_cl; rw [if_neg (by omega)]
theorem VT_train {M : Nat → Int32} {cn q tm k : Nat} (h : VT M cn q tm) (h1 : 1 ≤ k) (h6 : k ≤ 6) : VT (q_couples M (nI k)) k q tm :=
  ⟨⟨⟨cou_218, h1, h6⟩, h.1.2.1.congr (fun i a b => cou_off (by omega) (by omega) (by omega) (by omega) (by omega)) (cou_off (by omega) (by omega) (by omega) (by omega) (by omega)), TP_clr k fun i a b => cou_in a b, h.1.2.2.2.1.congr fun i a => cou_off (by omega) (by omega) (by omega) (by omega) (by omega), h.1.2.2.2.2.congr fun i a b => cou_off (by omega) (by omega) (by omega) (by omega) (by omega)⟩, (cou_off (by omega) (by omega) (by omega) (by omega) (by omega)).trans h.2.1, h.2.2⟩
theorem VT_load {M : Nat → Int32} {cn q tm a : Nat} {z v : Int32} (h : VT M cn q tm) (ha : a < cn) (hz : ¬ z < nI 1) (hz2 : ¬ nI 200 < z) (hf : M (120 + 8 * a + 0) + z ≤ nI 200) : VT (upd (upd M (120 + 8 * a + 0) (M (120 + 8 * a + 0) + z)) 225 v) cn q tm := by
  have h6 := h.1.1.2.2
  refine VT.upd (h.of (fun i _ _ _ => pk_un (by omega)) ?_ (h.1.2.2.2.1.congr fun i _ => pk_un (by omega))) (by omega) (by omega) (by omega) (by omega)
  obtain ⟨t1, t2, t3⟩ := h.1.2.2.1
  refine ⟨fun w d hw hd => ?_, fun w hw => ?_, fun b hb hb6 => ?_⟩
  · rw [pk_un (by omega)]; exact t1 w d hw hd
  · by_cases e : w = a
    · subst e
      have a1 := t2 w hw
      rw [i_lt, i_nI (by decide)] at hz hz2
      have e1 : (M (120 + 8 * w) + z).toInt = _ := i_add (by omega) (by omega)
      have hf : M (120 + 8 * w) + z ≤ nI 200 := hf
      rw [i_le, i_nI (by decide), e1] at hf
      show 0 ≤ (upd M (120 + 8 * w) (M (120 + 8 * w) + z) (120 + 8 * w)).toInt ∧ (upd M (120 + 8 * w) (M (120 + 8 * w) + z) (120 + 8 * w)).toInt ≤ 200
      rw [pk_us, e1]
      omega
    · rw [pk_un (by omega)]; exact t2 w hw
  · rw [pk_un (by omega)]
    refine ⟨(t3 b hb hb6).1, fun e he => ?_⟩
    rw [pk_un (by omega), pk_un (by omega)]
    exact (t3 b hb hb6).2 e he
theorem VT_door {M : Nat → Int32} {cn q tm a b : Nat} {z : Int32} (h : VT M cn q tm) (ha : a < cn) (hb : b < 3) (hz : ¬ z < 0) : VT (q_moves M a b z) cn q tm := by
  have h6 := h.1.1.2.2
  exact h.of (fun i x y _ => q_moves_off M z (by omega) hb (by omega)) (TP_moves h.1.2.2.1 ha h6 hb hz) (h.1.2.2.2.1.congr fun i x => q_moves_off M z (by omega) hb (by omega))
theorem VT_cancel {M : Nat → Int32} {cn q tm i : Nat} (h : VT M cn q tm) (hi : i < q) : VT (q_drop M (q - 1) i) cn (q - 1) tm := by
  obtain ⟨o1, o2, o3⟩ := h.1.2.1
  have hoff : ∀ j, j < 168 ∨ 218 ≤ j → j ≠ 223 → q_drop M (q - 1) i j = M j := fun j a b => q_drop_off M (by omega) a b
  refine ⟨⟨⟨(hoff _ (by omega) (by omega)).trans h.1.1.1, h.1.1.2⟩, ⟨q_drop223 _ _ _ _ (by omega), by omega, OVo_drop (by omega) (by omega) (by rw [show q - 1 + 1 = q by omega]; exact o3)⟩, h.1.2.2.1.congr fun j a b => hoff j (by omega) (by omega), h.1.2.2.2.1.congr fun j a => hoff j (by omega) (by omega), h.1.2.2.2.2.congr fun j a b => hoff j (by omega) (by omega)⟩, (hoff _ (by omega) (by omega)).trans h.2.1, h.2.2⟩
theorem sec_222 {M : Nat → Int32} {cn q : Nat} {B : Int} (h : VS M cn q B) : q_second M 222 = M 222 + nI 1 := by
  obtain ⟨⟨hc, h1, h6⟩, hq, -⟩ := h
  have ho := fun t ht => (hq.2.2 t ht).ov
  rw [q_second1 hc h6, pk_us]
  unfold q_sec1
  rw [q_closesN_off _ (by omega) (by omega) (by omega), q_spillsN_off _ (by omega) (by omega) (by omega), q_slidesN_off _ (by omega) (by omega), q_fallsN_off _ (by omega) (by omega) (by omega), q_pre_off hc hq.1 h6 hq.2.1 ho (by omega) (by omega) (by omega) (by omega) (by omega)]
theorem VT_pass {M : Nat → Int32} {cn q tm : Nat} (h : VT M cn q tm) : ∀ n, tm + n ≤ 9999 → ∃ q', q' ≤ q ∧ VT (s_secs M n) cn q' (tm + n)
  | 0, _ => ⟨q, Nat.le_refl _, h⟩
  | n + 1, hn => by
    obtain ⟨q', a, b⟩ := VT_pass h n (by omega)
    obtain ⟨q2, c, d⟩ := VS_second b.1 (by omega)
    have e : 3600 * ((tm + n : Nat) : Int) + 3600 = 3600 * ((tm + (n + 1) : Nat) : Int) := by omega
    rw [e] at d
    refine ⟨q2, by omega, d, ?_, hn⟩
    show q_second (s_secs M n) 222 = _
    rw [sec_222 b.1, b.2.1, nI_add]
    rfl
theorem VT_scrape {M : Nat → Int32} {cn q tm a b : Nat} {z v : Int32} (h : VT M cn q tm) (ha : a < 40) (hb : b < 3) (hz : ¬ z < nI 1) : VT (upd (upd M (3 * a + b) (M (3 * a + b) - s_min z (M (3 * a + b)))) 227 v) cn q tm := by
  refine VT.upd (h.of (fun i _ _ _ => pk_un (by omega)) (h.1.2.2.1.congr fun i _ _ => pk_un (by omega)) ?_) (by omega) (by omega) (by omega) (by omega)
  have hB := h.1.2.2.2.1
  have a1 := hB (3 * a + b) (by omega)
  have ht := h.2.2
  rw [i_lt, i_nI (by decide)] at hz
  have hu : 0 ≤ (s_min z (M (3 * a + b))).toInt ∧ (s_min z (M (3 * a + b))).toInt ≤ (M (3 * a + b)).toInt := by
    unfold s_min
    split
    · rename_i y; rw [i_lt] at y; omega
    · omega
  have e1 : (M (3 * a + b) - s_min z (M (3 * a + b))).toInt = _ := i_sub (by omega) (by omega)
  exact HB_upd hB (by omega) (by omega)
theorem CI.self {γ : Gm} {W : Wd} {c : Nat} {M P T : Nat → Int32} {u t cn q tm : Nat} (h : CI γ W c M P T u t cn q tm) : CI γ (wset W 0 M) c M P T u t cn q tm := by
  have e : wset W 0 M = W := by rw [← h.1, wset_self]
  rw [e]; exact h
/-! looking ahead -/
theorem VS.setq {M : Nat → Int32} {cn q q2 : Nat} {B : Int} (h : VS M cn q B) (hq : OQ M q2) : VS M cn q2 B := ⟨h.1, hq, h.2.2⟩
