/-! a state's numbers that are in order, and that a second keeps so -/
def OVo (o : Nat → Int32) : Prop := o 1 = nI 2 ∨ ∃ w d : Nat, w < 6 ∧ d < 3 ∧ o 2 = nI w ∧ o 3 = nI d ∧ (o 1 = nI 0 → ¬ o 4 ≤ 0)
def oM (M : Nat → Int32) (b i : Nat) : Nat → Int32 := fun z => M (b + 5 * i + z)
theorem OVo.congr {o o' : Nat → Int32} (h : OVo o) (he : ∀ z, z < 5 → o' z = o z) : OVo o' := by
  unfold OVo at *
  rw [he 1 (by decide), he 2 (by decide), he 3 (by decide), he 4 (by decide)]
  exact h
theorem OVo.ov {M : Nat → Int32} {i : Nat} (h : OVo (oM M 168 i)) : OV M i := by
  rcases h with h | ⟨w, d, a, b, c, e, _⟩
  · exact Or.inl h
  · exact Or.inr ⟨w, d, a, b, c, e⟩
def LG (M : Nat → Int32) : Prop := ∀ w d, w < 6 → d < 3 → ¬ M (120 + 8 * w + (2 + d)) < 0
def LD (M : Nat → Int32) : Prop := ∀ w, w < 6 → 0 ≤ (M (120 + 8 * w)).toInt ∧ (M (120 + 8 * w)).toInt ≤ 200
def SR (M : Nat → Int32) : Prop := ∀ j, j < 5 → (lstS j).toInt ≤ (M (228 + j)).toInt ∧ (M (228 + j)).toInt ≤ (mstS j).toInt
def OQ (M : Nat → Int32) (q : Nat) : Prop := M 223 = nI q ∧ q ≤ 10 ∧ ∀ t, t < q → OVo (oM M 168 t)
def TP (M : Nat → Int32) (cn : Nat) : Prop := LG M ∧ LD M ∧ NW M cn
def VS (M : Nat → Int32) (cn q : Nat) (B : Int) : Prop := (M 218 = nI cn ∧ 1 ≤ cn ∧ cn ≤ 6) ∧ OQ M q ∧ TP M cn ∧ HB M B ∧ SR M
theorem TP.congr {M N : Nat → Int32} {cn : Nat} (h : TP M cn) (he : ∀ i, 120 ≤ i → i < 168 → N i = M i) : TP N cn := by
  refine ⟨fun w d hw hd => ?_, fun w hw => ?_, fun a ha h6 => ?_⟩
  · rw [he _ (by omega) (by omega)]; exact h.1 w d hw hd
  · rw [he _ (by omega) (by omega)]; exact h.2.1 w hw
  · rw [he _ (by omega) (by omega)]
    refine ⟨(h.2.2 a ha h6).1, fun d hd => ?_⟩
    rw [he _ (by omega) (by omega), he _ (by omega) (by omega)]
    exact (h.2.2 a ha h6).2 d hd
theorem HB.congr {M N : Nat → Int32} {B : Int} (h : HB M B) (he : ∀ i, i < 120 → N i = M i) : HB N B := fun i hi => by rw [he i hi]; exact h i hi
theorem HB.mono {M : Nat → Int32} {B C : Int} (h : HB M B) (hB : B ≤ C) : HB M C := fun i hi => ⟨(h i hi).1, Int.le_trans (h i hi).2 hB⟩
theorem SR.congr {M N : Nat → Int32} (h : SR M) (he : ∀ i, 228 ≤ i → i < 233 → N i = M i) : SR N := fun j hj => by rw [he _ (by omega) (by omega)]; exact h j hj
theorem OQ.congr {M N : Nat → Int32} {q : Nat} (h : OQ M q) (he : ∀ i, 168 ≤ i → i < 218 → N i = M i) (h3 : N 223 = M 223) : OQ N q :=
  ⟨h3.trans h.1, h.2.1, fun t ht => (h.2.2 t ht).congr fun z hz => he _ (by have := h.2.1; omega) (by have := h.2.1; omega)⟩
theorem VS.vm {M : Nat → Int32} {cn q : Nat} {B : Int} (h : VS M cn q B) : VM M cn := ⟨h.1.1, h.1.2, q, h.2.1.1, h.2.1.2.1, fun t ht => (h.2.1.2.2 t ht).ov⟩
theorem VS.mono {M : Nat → Int32} {cn q : Nat} {B C : Int} (h : VS M cn q B) (hB : B ≤ C) : VS M cn q C := ⟨h.1, h.2.1, h.2.2.1, h.2.2.2.1.mono hB, h.2.2.2.2⟩
theorem TP_moves {M : Nat → Int32} {cn w d : Nat} {x : Int32} (h : TP M cn) (hw : w < cn) (h6 : cn ≤ 6) (hd : d < 3) (hx : ¬ x < 0) : TP (q_moves M w d x) cn := by
  unfold q_moves
  split
  · split
    · exact h
    · refine ⟨fun w' d' hw' hd' => ?_, fun w' hw' => ?_, fun a ha ha6 => ?_⟩
      · rw [pk_un (by omega)]; exact h.1 w' d' hw' hd'
      · rw [pk_un (by omega)]; exact h.2.1 w' hw'
      · rw [pk_un (by omega)]
        refine ⟨(h.2.2 a ha ha6).1, fun e he => ?_⟩
        rw [pk_un (by omega), pk_un (by omega)]
        exact (h.2.2 a ha ha6).2 e he
  · refine ⟨fun w' d' hw' hd' => ?_, fun w' hw' => ?_, fun a ha ha6 => ?_⟩
    · rw [pk_un (by omega)]
      by_cases e : 120 + 8 * w' + (2 + d') = 120 + 8 * w + (2 + d)
      · rw [e, pk_us]; exact hx
      · rw [pk_un e]; exact h.1 w' d' hw' hd'
    · rw [pk_un (by omega), pk_un (by omega)]; exact h.2.1 w' hw'
    · rw [pk_un (by omega), pk_un (by omega)]
      refine ⟨(h.2.2 a ha ha6).1, fun e he => ?_⟩
      rw [pk_un (by omega), pk_un (by omega), pk_un (by omega), pk_un (by omega)]
      exact (h.2.2 a ha ha6).2 e he
theorem due_lt {M : Nat → Int32} {cn i w : Nat} (h1 : 1 ≤ cn) (h6 : cn ≤ 6) (hw : w < 6) (h2 : ¬ M (168 + 5 * i + 1) = nI 2) (e : M (168 + 5 * i + 2) = nI w) (hd : ¬ q_due M cn i = 0) : w < cn := by
  unfold q_due at hd
  rw [if_neg h2, e] at hd
  have h3 := (bi_n0 hd).1.2
  have h4 : ¬ cn - 1 < w := fun z => h3 ((nI_ltI (by omega) (by omega)).mpr z)
  omega
theorem TP_act {M : Nat → Int32} {cn i : Nat} (h : TP M cn) (h1 : 1 ≤ cn) (h6 : cn ≤ 6) (ho : OVo (oM M 168 i)) (hd : ¬ q_due M cn i = 0) : TP (q_act M i) cn := by
  by_cases h2 : M (168 + 5 * i + 1) = nI 2
  · unfold q_act
    rw [if_pos h2]
    exact h.congr fun j a b => pk_un (by omega)
  · obtain ⟨w, d, a, b, c, e, f⟩ := ho.resolve_left h2
    rw [q_act_m h2 a b c e]
    refine TP_moves h (due_lt h1 h6 a h2 c hd) h6 b ?_
    split
    · rename_i h0
      have := f (show M (168 + 5 * i + 1) = nI 0 from h0.trans nI_0.symm)
      intro z
      have h5 : M (168 + 5 * i + 4) ≤ 0 := by rw [i_lt] at z; rw [i_le]; omega
      exact this h5
    · decide
theorem OVo_drop {M : Nat → Int32} {q i : Nat} (hq : q ≤ 9) (hi : i ≤ q) (h : ∀ t, t < q + 1 → OVo (oM M 168 t)) : ∀ t, t < q → OVo (oM (q_drop M q i) 168 t) := by
  intro t ht
  by_cases h2 : t < i
  · exact (h t (by omega)).congr fun z hz => q_drop_lo M (by omega) (by omega) (by omega)
  · refine (h (t + 1) (by omega)).congr fun z hz => ?_
    show q_drop M q i (168 + 5 * t + z) = M (168 + 5 * (t + 1) + z)
    rw [q_drop_hi M (by omega) (by omega) (by omega), show 168 + 5 * t + z + 5 = 168 + 5 * (t + 1) + z by omega]
theorem OQ_due {N : Nat → Int32} {i r : Nat} (hq : OQ N (i + (r + 1))) : OQ (q_drop (q_act N i) (i + r) i) (i + r) := by
  obtain ⟨h3, h10, ho⟩ := hq
  exact ⟨q_drop223 _ _ _ _ (by omega), by omega, OVo_drop (by omega) (by omega) fun t ht => (ho t (by omega)).congr fun z hz => q_act_off N (ho i (by omega)).ov (Or.inr (by omega)) (by omega)⟩
theorem q_ord_s {cn : Nat} (h1 : 1 ≤ cn) (h6 : cn ≤ 6) : ∀ (r i : Nat) (N : Nat → Int32), OQ N (i + r) → TP N cn → ∃ q : Nat, q ≤ i + r ∧ OQ (q_ord cn r i N) q ∧ TP (q_ord cn r i N) cn
  | 0, i, N, hq, ht => ⟨i, Nat.le_refl _, hq, ht⟩
  | r + 1, i, N, hq, ht => by
    show ∃ q : Nat, q ≤ i + (r + 1) ∧ OQ (if q_due N cn i = 0 then q_ord cn r (i + 1) N else q_ord cn r i (q_drop (q_act N i) ((N 223).toNatClampNeg - 1) i)) q ∧ TP (if q_due N cn i = 0 then q_ord cn r (i + 1) N else q_ord cn r i (q_drop (q_act N i) ((N 223).toNatClampNeg - 1) i)) cn
    by_cases hd : q_due N cn i = 0
    · rw [if_pos hd]
      obtain ⟨q, a, b, c⟩ := q_ord_s h1 h6 r (i + 1) N (by rw [show i + 1 + r = i + (r + 1) by omega]; exact hq) ht
      exact ⟨q, by omega, b, c⟩
    · rw [if_neg hd]
      have h10 := hq.2.1
      rw [hq.1, nI_clamp (by omega), show i + (r + 1) - 1 = i + r by omega]
      obtain ⟨q, a, b, c⟩ := q_ord_s h1 h6 r i (q_drop (q_act N i) (i + r) i) (OQ_due hq) ((TP_act ht h1 h6 (hq.2.2 i (by omega)) hd).congr fun j a b => q_drop_off _ (by omega) (by omega) (by omega))
      exact ⟨q, by omega, b, c⟩
/-! falling -/
theorem u_in {M : Nat → Int32} {cn w d : Nat} (h : TP M cn) (hw : w < 6) (hd : d < 3) : 0 ≤ (q_u M w d).toInt ∧ (q_u M w d).toInt ≤ (M (120 + 8 * w)).toInt := by
  have a1 := h.1 w d hw hd
  have a2 := h.2.1 w hw
  rw [i_lt, i_0] at a1
  show 0 ≤ (if M (120 + 8 * w + (2 + d)) < M (120 + 8 * w) then M (120 + 8 * w + (2 + d)) else M (120 + 8 * w)).toInt ∧ (if M (120 + 8 * w + (2 + d)) < M (120 + 8 * w) then M (120 + 8 * w + (2 + d)) else M (120 + 8 * w)).toInt ≤ _
  split
  · rename_i z
    rw [i_lt] at z
    omega
  · omega
theorem f2_1 (M : Nat → Int32) (w d : Nat) {i : Nat} (h : i ≠ 120 + 8 * w) (h2 : i ≠ 120 + 8 * w + 1) : q_f2 M w d i = M i := by
  unfold q_f2 q_f1
  rw [pk_un h2]
  exact pk_un h
theorem f2_0 (M : Nat → Int32) (w d : Nat) : q_f2 M w d (120 + 8 * w) = M (120 + 8 * w) - q_u M w d := by
  unfold q_f2 q_f1
  rw [pk_un (by omega)]
  show upd M (120 + 8 * w) (M (120 + 8 * w) - q_u M w d) (120 + 8 * w) = _
  rw [pk_us]
theorem TP_f2 {M : Nat → Int32} {cn w d : Nat} (h : TP M cn) (hw : w < cn) (h6 : cn ≤ 6) (hd : d < 3) : TP (q_f2 M w d) cn := by
  refine ⟨fun w' d' hw' hd' => ?_, fun w' hw' => ?_, fun a ha ha6 => ?_⟩
  · rw [f2_1 M w d (by omega) (by omega)]; exact h.1 w' d' hw' hd'
  · by_cases e : w' = w
    · subst e
      have a1 := u_in h hw' hd
      have a2 := h.2.1 w' hw'
      have e1 : (M (120 + 8 * w') - q_u M w' d).toInt = _ := i_sub (by omega) (by omega)
      rw [f2_0, e1]; omega
    · rw [f2_1 M w d (by omega) (by omega)]; exact h.2.1 w' hw'
  · rw [f2_1 M w d (by omega) (by omega)]
    refine ⟨(h.2.2 a ha ha6).1, fun e he => ?_⟩
    rw [f2_1 M w d (by omega) (by omega), f2_1 M w d (by omega) (by omega)]
    exact (h.2.2 a ha ha6).2 e he
theorem TP_falls {M : Nat → Int32} {cn w d : Nat} (h : TP M cn) (hw : w < cn) (h6 : cn ≤ 6) (hd : d < 3) : TP (q_falls M w d) cn := by
  unfold q_falls
  split
  · rename_i hh
    obtain ⟨c, hc, e⟩ := in_nat (by decide) hh
    rw [e, nI_clamp (by omega)]
    exact (TP_f2 h hw h6 hd).congr fun i a b => pk_un (by omega)
  · exact (TP_f2 h hw h6 hd).congr fun i a b => pk_un (by omega)
theorem HB_falls {M : Nat → Int32} {cn w d : Nat} {B : Int} (h : TP M cn) (hB : HB M B) (hB2 : B + 200 < 1000000000) (hw : w < 6) (hd : d < 3) : HB (q_falls M w d) (B + 200) := by
  have a1 := u_in h hw hd
  have a2 := h.2.1 w hw
  have h2 : HB (q_f2 M w d) B := hB.congr fun i hi => f2_1 M w d (by omega) (by omega)
  unfold q_falls
  split
  · rename_i hh
    obtain ⟨c, hc, e⟩ := in_nat (by decide) hh
    rw [e, nI_clamp (by omega)]
    have a3 := h2 (3 * c + d) (by omega)
    have e1 : (q_f2 M w d (3 * c + d) + q_u M w d).toInt = _ := i_add (by omega) (by omega)
    exact HB_upd (h2.mono (by omega)) (by omega) (by omega)
  · exact (h2.mono (by omega)).congr fun i hi => pk_un (by omega)
theorem fallsN_s {M : Nat → Int32} {cn : Nat} {B : Int} (h6 : cn ≤ 6) (h : TP M cn) (hB : HB M B) (hB2 : B + 3600 < 1000000000) : ∀ n, n ≤ 3 * cn → TP (q_fallsN M n) cn ∧ HB (q_fallsN M n) (B + 200 * n)
  | 0, _ => ⟨h, hB.mono (by omega)⟩
  | n + 1, hn => by
    obtain ⟨a, b⟩ := fallsN_s h6 h hB hB2 n (by omega)
    have e : B + 200 * (n + 1 : Nat) = B + 200 * n + 200 := by omega
    rw [e]
    exact ⟨TP_falls a (by omega) h6 (by omega), HB_falls a b (by omega) (by omega) (by omega)⟩
theorem HB_spills {M : Nat → Int32} {B : Int} {c s : Nat} (hB : HB M B) (hB2 : B < 1000000000) (hl : 0 ≤ (M 229).toInt) (hc : c < 40) (hs : s < 3) : HB (q_spills M c s) B := by
  unfold q_spills q_p1
  refine HB.congr (M := upd M (3 * c + s) (M (3 * c + s) - q_pos (q_over M c s))) ?_ (fun i hi => pk_un (by omega))
  have a1 := hB (3 * c + s) (by omega)
  have a2 := Int32.toInt_lt (M 229)
  have e1 : (M (3 * c + s) - M 229).toInt = _ := i_sub (by omega) (by omega)
  unfold q_pos q_over
  split
  · rw [nI_0, Int32.sub_zero, upd_same rfl]; exact hB
  · rename_i z
    rw [i_le, i_0] at z
    have e2 : (M (3 * c + s) - (M (3 * c + s) - M 229)).toInt = _ := i_sub (by omega) (by omega)
    exact HB_upd hB (by omega) (by omega)
theorem HB_spillsN {M : Nat → Int32} {B : Int} (hB : HB M B) (hB2 : B < 1000000000) (hl : 0 ≤ (M 229).toInt) : ∀ n, n ≤ 40 → HB (q_spillsN M n) B
  | 0, _ => hB
  | n + 1, hn => by
    have h := HB_spillsN hB hB2 hl n (by omega)
    show HB (q_spills (q_spills (q_spillsN M n) n 0) n 2) B
    have e0 : q_spillsN M n 229 = M 229 := q_spillsN_off M (by omega) (by omega) (by omega)
    refine HB_spills (HB_spills h hB2 (by rw [e0]; exact hl) (by omega) (by omega)) hB2 ?_ (by omega) (by omega)
    rw [q_spills_off _ (by omega) (by omega) (by omega) (by omega), e0]; exact hl
theorem TP_closes {M : Nat → Int32} {cn w d : Nat} (h : TP M cn) (hw : w < cn) (h6 : cn ≤ 6) (hd : d < 3) : TP (q_closes M w d) cn := by
  have hn : ∀ (x : Int32), ¬ x < 0 → TP (upd M (120 + 8 * w + (2 + d)) x) cn := by
    intro x hx
    refine ⟨fun w' d' hw' hd' => ?_, fun w' hw' => ?_, fun a ha ha6 => ?_⟩
    · by_cases e : 120 + 8 * w' + (2 + d') = 120 + 8 * w + (2 + d)
      · rw [e, pk_us]; exact hx
      · rw [pk_un e]; exact h.1 w' d' hw' hd'
    · rw [pk_un (by omega)]; exact h.2.1 w' hw'
    · rw [pk_un (by omega)]
      refine ⟨(h.2.2 a ha ha6).1, fun e he => ?_⟩
      rw [pk_un (by omega), pk_un (by omega)]
      exact (h.2.2 a ha ha6).2 e he
  have hr : ∀ (N : Nat → Int32) (x : Int32), TP N cn → TP (upd N (120 + 8 * w + (5 + d)) x) cn := by
    intro N x h
    refine ⟨fun w' d' hw' hd' => ?_, fun w' hw' => ?_, fun a ha ha6 => ?_⟩
    · rw [pk_un (by omega)]; exact h.1 w' d' hw' hd'
    · rw [pk_un (by omega)]; exact h.2.1 w' hw'
    · rw [pk_un (by omega)]
      refine ⟨(h.2.2 a ha ha6).1, fun e he => ?_⟩
      rw [pk_un (by omega), pk_un (by omega)]
      exact (h.2.2 a ha ha6).2 e he
  unfold q_closes q_c1
  split
  · split
    · refine TP.congr (hr _ (-1001) (hn (q_jam M w) ?_)) (fun i a b => pk_un (by omega))
      unfold q_jam
      split <;> decide
    · exact h
  · exact hr _ _ h
theorem closesN_s {M : Nat → Int32} {cn : Nat} (h6 : cn ≤ 6) (h : TP M cn) : ∀ n, n ≤ 3 * cn → TP (q_closesN M n) cn
  | 0, _ => h
  | n + 1, hn => TP_closes (M := q_closesN M n) (closesN_s h6 h n (by omega)) (by omega) h6 (by omega)
theorem HB_closesN {M : Nat → Int32} {B : Int} (h : HB M B) {n : Nat} (hn : n ≤ 18) : HB (q_closesN M n) B := h.congr fun i hi => q_closesN_off M hn (Or.inl hi) (by omega)
/-! a second -/
theorem SR_0 {M : Nat → Int32} (h : SR M) : 0 ≤ (M 228).toInt := by
  have h9 := (h 0 (by decide)).1
  have : (lstS 0).toInt = 1 := by decide
  rw [this] at h9
  exact Int.le_trans (by decide) h9
theorem SR_1 {M : Nat → Int32} (h : SR M) : 0 ≤ (M 229).toInt := by
  have h9 := (h 1 (by decide)).1
  have : (lstS 1).toInt = 1 := by decide
  rw [this] at h9
  exact Int.le_trans (by decide) h9
theorem SR_4 {M : Nat → Int32} (h : SR M) : 0 ≤ (M 232).toInt ∧ (M 232).toInt ≤ 60 := by
  have h9 := h 4 (by decide)
  have e1 : (lstS 4).toInt = 0 := by decide
  have e2 : (mstS 4).toInt = 60 := by decide
  rw [e1, e2] at h9
  exact h9
theorem OQ_pp {M : Nat → Int32} {q : Nat} (h : OQ M q) : OQ (q_place (q_speed M)) q := h.congr (fun i a b => q_pp_off M (by omega) (by omega)) (q_pp_off M (by decide) (by decide))
theorem TP_pp {M : Nat → Int32} {cn : Nat} (h : TP M cn) : TP (q_place (q_speed M)) cn := h.congr (fun i a b => q_pp_off M (by omega) (by omega))
/-- the orders are carried out: what holds then -/
theorem VS_pre {M : Nat → Int32} {cn q : Nat} {B : Int} (h : VS M cn q B) : q_pre M = q_ord cn q 0 (q_place (q_speed M)) ∧ ∃ q', q' ≤ q ∧ VS (q_pre M) cn q' B := by
  obtain ⟨⟨hc, h1, h6⟩, hq, ht, hb, hs⟩ := h
  have e := q_pre_eq hc hq.1 h6 hq.2.1
  have ho := fun t ht => (hq.2.2 t ht).ov
  refine ⟨e, ?_⟩
  obtain ⟨q', a, b, c⟩ := q_ord_s h1 h6 q 0 (q_place (q_speed M)) (by rw [Nat.zero_add]; exact OQ_pp hq) (TP_pp ht)
  rw [← e] at b c
  refine ⟨q', by omega, ⟨(q_pre_off hc hq.1 h6 hq.2.1 ho (by omega) (by omega) (by omega) (by omega) (by omega)).trans hc, h1, h6⟩, b, c, hb.congr fun i hi => ?_, hs.congr fun i h3 h4 => ?_⟩
  · exact q_pre_off hc hq.1 h6 hq.2.1 ho (by omega) (by omega) (by omega) (by omega) (by omega)
  · exact q_pre_off hc hq.1 h6 hq.2.1 ho (by omega) (by omega) (by omega) (by omega) (by omega)
/-- a second without its clock -/
def q_sec1 (M : Nat → Int32) (cn : Nat) : Nat → Int32 := q_closesN (q_spillsN (q_slidesN (q_fallsN (q_pre M) (3 * cn)) 117) 40) (3 * cn)
theorem q_second1 {M : Nat → Int32} {cn : Nat} (hc : M 218 = nI cn) (h6 : cn ≤ 6) : q_second M = upd (q_sec1 M cn) 222 (q_sec1 M cn 222 + nI 1) := by
  unfold q_second q_sec1
  rw [hc, nI_clamp (by omega)]
theorem VS_second {M : Nat → Int32} {cn q : Nat} {B : Int} (h : VS M cn q B) (hB : B + 3600 < 1000000000) : ∃ q', q' ≤ q ∧ VS (q_second M) cn q' (B + 3600) := by
  obtain ⟨-, q', a, h2⟩ := VS_pre h
  have hv := h.vm
  have h2s := q_second_off hv (j := 218) (by omega) (by omega) (by omega) (by omega) (by omega) (by omega) (by omega) (by omega)
  have hset : ∀ i, 228 ≤ i → i < 233 → q_second M i = M i := fun i h3 h4 => q_second_off hv (by omega) (by omega) (by omega) (by omega) (by omega) (by omega) (by omega) (by omega)
  have heq : ∀ i, 168 ≤ i → i ≠ 222 → i ≠ 224 → i ≠ 226 → q_second M i = q_pre M i := fun i h3 h4 h5 h6 => q_second_eq hv h3 h4 h5 h6
  obtain ⟨⟨hc, h1, h6⟩, hq, ht, hb, hs⟩ := h2
  have hc0 := h.1.1
  obtain ⟨f1, f2⟩ := fallsN_s h6 ht hb hB (3 * cn) (by omega)
  have f3 : HB (q_fallsN (q_pre M) (3 * cn)) (B + 3600) := f2.mono (by omega)
  have es : ∀ i, 228 ≤ i → i < 233 → q_fallsN (q_pre M) (3 * cn) i = q_pre M i := fun i h3 h4 => q_fallsN_off _ (by omega) (by omega) (by omega)
  have f4 := HB_slidesN f3 hB (by rw [es _ (by omega) (by omega)]; exact SR_0 hs) 117 (Nat.le_refl _)
  have f5 := HB_spillsN f4 hB (by rw [q_slidesN_off _ (by omega) (by omega), es _ (by omega) (by omega)]; exact SR_1 hs) 40 (Nat.le_refl _)
  have f6 : HB (q_sec1 M cn) (B + 3600) := HB_closesN f5 (by omega)
  have g4 : TP (q_slidesN (q_fallsN (q_pre M) (3 * cn)) 117) cn := f1.congr fun i a b => q_slidesN_off _ (by omega) (by omega)
  have g5 : TP (q_spillsN (q_slidesN (q_fallsN (q_pre M) (3 * cn)) 117) 40) cn := g4.congr fun i a b => q_spillsN_off _ (by omega) (by omega) (by omega)
  have g6 : TP (q_sec1 M cn) cn := closesN_s h6 g5 (3 * cn) (Nat.le_refl _)
  refine ⟨q', a, ⟨h2s.trans hc0, h1, h6⟩, hq.congr (fun i x y => heq i x (by omega) (by omega) (by omega)) (heq _ (by omega) (by omega) (by omega) (by omega)), ?_, ?_, ?_⟩
  · rw [q_second1 hc0 h6]; exact g6.congr fun i a b => pk_un (by omega)
  · rw [q_second1 hc0 h6]; exact f6.congr fun i a => pk_un (by omega)
  · exact h.2.2.2.2.congr hset
theorem VS_secs {M : Nat → Int32} {cn q : Nat} {B : Int} (h : VS M cn q B) : ∀ n : Nat, B + 3600 * n < 1000000000 → ∃ q', q' ≤ q ∧ VS (s_secs M n) cn q' (B + 3600 * n)
  | 0, _ => ⟨q, Nat.le_refl _, h.mono (by omega)⟩
  | n + 1, hn => by
    obtain ⟨q', a, b⟩ := VS_secs h n (by omega)
    obtain ⟨q2, c, d⟩ := VS_second b (by omega)
    refine ⟨q2, by omega, ?_⟩
    have e : B + 3600 * (n + 1 : Nat) = B + 3600 * n + 3600 := by omega
    rw [e]
    exact d
