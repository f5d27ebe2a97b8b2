/-! the world: rows of numbers (0..7 the states in the reference's places, 8 the text, 9 the history, 10 m, 11 past, 12 aside, 13 the reference's text, 14 read, 15 its numbers), the lists of orders, what is made in the run, the digest's number, the count of cells -/
abbrev LVt : Type := Int32 × Nat × Nat × Nat × (Nat → Option Nat)
abbrev DVt : Type := Nat ⊕ (Nat → Int32)
abbrev Wd : Type := (Nat → Nat → Int32) × (Nat → LVt) × (Nat → Option DVt) × Int64 × Nat
def vw (n : Nat) (φ : Nat → Nat) (f : Nat → Int32) : Nat → Int32 := fun i => if i < n then f (φ i) else 0
theorem vw_at {n : Nat} {φ : Nat → Nat} {f : Nat → Int32} {i : Nat} (h : i < n) : vw n φ f i = f (φ i) := if_pos h
theorem vw_up {n : Nat} {φ : Nat → Nat} {f : Nat → Int32} {i : Nat} (x : Int32) (h : i < n) (inj : ∀ a, a < n → φ a = φ i → a = i) : upd (vw n φ f) i x = vw n φ (upd f (φ i) x) := by
  funext a
  by_cases ha : a < n
  · by_cases e : a = i
    · subst e; simp [upd, vw, ha]
    · have : ¬ φ a = φ i := fun q => e (inj a ha q)
      simp [upd, vw, ha, e, this]
  · have : ¬ a = i := by omega
    simp [upd, vw, ha, this]
theorem vw_off {n : Nat} {φ : Nat → Nat} {f : Nat → Int32} {i : Nat} {x : Int32} (h : ∀ a, a < n → φ a ≠ i) : vw n φ (upd f i x) = vw n φ f := by
  funext a
  by_cases ha : a < n
  · simp [vw, ha, upd, h a ha]
  · simp [vw, ha]
def wset (w : Wd) (b : Nat) (g : Nat → Int32) : Wd := (fun c => if c = b then g else w.1 c, w.2)
def wl (w : Wd) (b : Nat) (v : LVt) : Wd := (w.1, fun c => if c = b then v else w.2.1 c, w.2.2)
def wdy (w : Wd) (a : Nat) (v : DVt) : Wd := (w.1, w.2.1, fun c => if c = a then some v else w.2.2.1 c, w.2.2.2)
def wha (w : Wd) (x : Int64) : Wd := (w.1, w.2.1, w.2.2.1, x, w.2.2.2.2)
def wn (w : Wd) (n : Nat) : Wd := (w.1, w.2.1, w.2.2.1, w.2.2.2.1, n)
def so (k : Nat) : Nat := if k < 2 then 4 + 10 * k else 6 + 10 * k
def lsE (v : LVt) : va_E := .inr (0, [.int v.1, .ref v.2.2.1, .int (nI v.2.1)])
def iE (γ : Gm) (n : Nat) (f : Nat → Int32) : va_E := .inl (γ.2.2.1 0, n, .inl f)
def rE (γ : Gm) (t n : Nat) (f : Nat → Option Nat) : va_E := .inl (γ.2.2.1 t, n, .inr (.inr (.inr (.inr f))))
def f_set (i : Nat) : Nat := 228 + i
def f_hts (i : Nat) : Nat := i
def f_load (i : Nat) : Nat := 120 + 8 * i
def f_left (i : Nat) : Nat := 121 + 8 * i
def f_lev (i : Nat) : Nat := 122 + 8 * (i / 3) + i % 3
def f_rest (i : Nat) : Nat := 125 + 8 * (i / 3) + i % 3
def f_w (i : Nat) : Nat := if i < 48 then 120 + i else if i < 53 then 170 + i else 171 + i
/-- three heights in one number -/
def pk3 (f : Nat → Int32) (c : Nat) : Int32 := f (3 * c + 0) + nI 1024 * f (3 * c + 1) + nI 1048576 * f (3 * c + 2)
def pkh (f : Nat → Int32) : Nat → Int32 := fun c => if c < 40 then pk3 f c else 0
def stE (γ : Gm) (o r : Nat) (f : Nat → Int32) (v : LVt) : Option va_E := match r with
  | 0 => some (.inr (2, [.ref (γ.1 + o + 1), .ref (γ.1 + o + 2), .ref (γ.1 + o + 4), .ref (γ.1 + o + 9), .int (f 222), .int (f 224), .int (f 225), .int (f 226), .int (f 227)]))
  | 1 => some (iE γ 5 (vw 5 f_set f))
  | 2 => some (.inr (4, [.ref (γ.1 + o + 3)]))
  | 3 => some (iE γ 120 (vw 120 f_hts f))
  | 4 => some (.inr (5, [.int (f 218), .int (f 219), .int (f 220), .int (f 221), .ref (γ.1 + o + 5), .ref (γ.1 + o + 6), .ref (γ.1 + o + 7), .ref (γ.1 + o + 8)]))
  | 5 => some (iE γ 6 (vw 6 f_load f))
  | 6 => some (iE γ 6 (vw 6 f_left f))
  | 7 => some (iE γ 18 (vw 18 f_lev f))
  | 8 => some (iE γ 18 (vw 18 f_rest f))
  | _ => some (lsE v)
def ent (γ : Gm) (i : Nat) (f : Nat → Int32) (v : LVt) (hs : Int64) : Option va_E :=
  if i < 4 then (match i with
    | 0 => some (.inr (6, [.ref (γ.1 + 1), .ref (γ.1 + 4), .ref (γ.1 + 14), .ref (γ.1 + 24)]))
    | 1 => some (.inr (3, [.ref (γ.1 + 2), .int (f 60), .ref (γ.1 + 3), .int (f 61), .int (f 62)]))
    | 2 => some (iE γ 60 (vw 60 f_hts f))
    | _ => some (lsE v))
  else if i < 24 then stE γ (i - (i - 4) % 10) ((i - 4) % 10) f v
  else if i < 26 then (if i = 24 then some (.inr (1, [.ref (γ.1 + 25), .int (f 0), .int (f 1)])) else some (rE γ 1 6 (fun q => some (γ.1 + so (q + 2)))))
  else if i < 86 then stE γ (i - (i - 6) % 10) ((i - 6) % 10) f v
  else match i with
    | 86 => some (iE γ 40 (pkh f))
    | 87 => some (iE γ 64 (vw 62 f_w f))
    | 88 => some (iE γ 64 (fun _ => 0))
    | _ => none
def bk (i : Nat) : Nat := if i < 4 then 8 else if i < 24 then (i - 4) / 10 else if i < 26 then 9 else if i < 86 then (i - 6) / 10 else if i = 86 then 10 else i - 77
def lk (i : Nat) : Nat := if i < 4 then 8 else if i < 24 then (i - 4) / 10 else (i - 6) / 10
def dynE (γ : Gm) (w : Wd) (a : Nat) : Option va_E := match w.2.2.1 a with
  | some (.inl j) => if (w.2.1 j).2.2.1 = a then some (rE γ 2 (w.2.1 j).2.2.2.1 (w.2.1 j).2.2.2.2) else none
  | some (.inr v) => some (.inr (7, [.int (v 0), .int (v 1), .int (v 2), .int (v 3), .int (v 4)]))
  | none => none
def rdw (γ : Gm) (w : Wd) : HP := (fun a => if a < γ.1 then none else if a < γ.1 + 92 then ent γ (a - γ.1) (w.1 (bk (a - γ.1))) (w.2.1 (lk (a - γ.1))) w.2.2.2.1 else dynE γ w a, w.2.2.2.2)
/-! reading the world -/
theorem rdw_at (γ : Gm) (w : Wd) {i : Nat} (hi : i < 92) : (rdw γ w).1 (γ.1 + i) = ent γ i (w.1 (bk i)) (w.2.1 (lk i)) w.2.2.2.1 := by
  simp only [rdw]
  rw [if_neg (by omega), if_pos (by omega), Nat.add_sub_cancel_left]
theorem so_ent (γ : Gm) {k r : Nat} (hk : k < 8) (hr : r < 10) (f : Nat → Int32) (v : LVt) (hs : Int64) : ent γ (so k + r) f v hs = stE γ (so k) r f v := by
  unfold so
  by_cases h : k < 2
  · simp only [if_pos h, ent]
    have e1 : (4 + 10 * k + r - 4) % 10 = r := by omega
    rw [if_neg (by omega), if_pos (by omega), e1, show 4 + 10 * k + r - r = 4 + 10 * k by omega]
  · simp only [if_neg h, ent]
    have e1 : (6 + 10 * k + r - 6) % 10 = r := by omega
    rw [if_neg (by omega), if_neg (by omega), if_neg (by omega), if_pos (by omega), e1, show 6 + 10 * k + r - r = 6 + 10 * k by omega]
theorem so_bk {k r : Nat} (hk : k < 8) (hr : r < 10) : bk (so k + r) = k := by
  unfold so bk
  by_cases h : k < 2
  · simp only [if_pos h]
    rw [if_neg (by omega), if_pos (by omega)]; omega
  · simp only [if_neg h]
    rw [if_neg (by omega), if_neg (by omega), if_neg (by omega), if_pos (by omega)]; omega
theorem so_lk {k r : Nat} (hk : k < 8) (hr : r < 10) : lk (so k + r) = k := by
  unfold so lk
  by_cases h : k < 2
  · simp only [if_pos h]
    rw [if_neg (by omega), if_pos (by omega)]; omega
  · simp only [if_neg h]
    rw [if_neg (by omega), if_neg (by omega)]; omega
theorem so_lt {k r : Nat} (hk : k < 8) (hr : r < 10) : so k + r < 92 := by unfold so; split <;> omega
theorem bk_so {i k : Nat} (hk : k < 8) (hi : i < 92) (h : bk i = k) : ∃ r, r < 10 ∧ i = so k + r := by
  unfold bk at h
  by_cases h1 : i < 4
  · rw [if_pos h1] at h; omega
  · rw [if_neg h1] at h
    by_cases h2 : i < 24
    · rw [if_pos h2] at h
      have hk2 : k < 2 := by omega
      exact ⟨(i - 4) % 10, by omega, by unfold so; rw [if_pos hk2]; omega⟩
    · rw [if_neg h2] at h
      by_cases h3 : i < 26
      · rw [if_pos h3] at h; omega
      · rw [if_neg h3] at h
        by_cases h4 : i < 86
        · rw [if_pos h4] at h
          have hk2 : ¬ k < 2 := by omega
          exact ⟨(i - 6) % 10, by omega, by unfold so; rw [if_neg hk2]; omega⟩
        · rw [if_neg h4] at h
          by_cases h5 : i = 86
          · rw [if_pos h5] at h; omega
          · rw [if_neg h5] at h; omega
theorem ws_same (w : Wd) (b : Nat) (g : Nat → Int32) : (wset w b g).1 b = g := by simp [wset]
theorem ws_ne (w : Wd) {b c : Nat} (g : Nat → Int32) (h : c ≠ b) : (wset w b g).1 c = w.1 c := by simp [wset, h]
theorem wset_self (w : Wd) (b : Nat) : wset w b (w.1 b) = w := by
  refine Prod.ext (funext fun c => ?_) rfl
  by_cases h : c = b
  · subst h; simp [wset]
  · simp [wset, h]
theorem wset_wset (w : Wd) (b : Nat) (g g' : Nat → Int32) : wset (wset w b g) b g' = wset w b g' := by
  refine Prod.ext (funext fun c => ?_) rfl
  by_cases h : c = b <;> simp [wset, h]
theorem wset_swap (w : Wd) {b c : Nat} (h : c < b) (g g' : Nat → Int32) : wset (wset w b g) c g' = wset (wset w c g') b g := by
  refine Prod.ext (funext fun x => ?_) rfl
  by_cases h1 : x = b
  · subst h1; simp [wset, Nat.ne_of_gt h]
  · simp [wset, h1]
theorem rd_st (γ : Gm) (w : Wd) (g : Nat → Int32) {k : Nat} (hk : k < 8) (r : Nat) (hr : r < 10) : (rdw γ (wset w k g)).1 (γ.1 + (so k + r)) = stE γ (so k) r g (w.2.1 k) := by
  rw [rdw_at γ _ (so_lt hk hr), so_ent γ hk hr, so_bk hk hr, so_lk hk hr, ws_same]; rfl
theorem rd_State (γ : Gm) (w : Wd) (g : Nat → Int32) {k : Nat} (hk : k < 8) : (rdw γ (wset w k g)).1 (γ.1 + so k) = some (.inr (2, [.ref (γ.1 + so k + 1), .ref (γ.1 + so k + 2), .ref (γ.1 + so k + 4), .ref (γ.1 + so k + 9), .int (g 222), .int (g 224), .int (g 225), .int (g 226), .int (g 227)])) := rd_st γ w g hk 0 (by decide)
theorem rd_Settings (γ : Gm) (w : Wd) (g : Nat → Int32) {k : Nat} (hk : k < 8) : (rdw γ (wset w k g)).1 (γ.1 + so k + 1) = some (iE γ 5 (vw 5 f_set g)) := rd_st γ w g hk 1 (by decide)
theorem rd_Track (γ : Gm) (w : Wd) (g : Nat → Int32) {k : Nat} (hk : k < 8) : (rdw γ (wset w k g)).1 (γ.1 + so k + 2) = some (.inr (4, [.ref (γ.1 + so k + 3)])) := rd_st γ w g hk 2 (by decide)
theorem rd_Heights (γ : Gm) (w : Wd) (g : Nat → Int32) {k : Nat} (hk : k < 8) : (rdw γ (wset w k g)).1 (γ.1 + so k + 3) = some (iE γ 120 (vw 120 f_hts g)) := rd_st γ w g hk 3 (by decide)
theorem rd_Train (γ : Gm) (w : Wd) (g : Nat → Int32) {k : Nat} (hk : k < 8) : (rdw γ (wset w k g)).1 (γ.1 + so k + 4) = some (.inr (5, [.int (g 218), .int (g 219), .int (g 220), .int (g 221), .ref (γ.1 + so k + 5), .ref (γ.1 + so k + 6), .ref (γ.1 + so k + 7), .ref (γ.1 + so k + 8)])) := rd_st γ w g hk 4 (by decide)
theorem rd_Load (γ : Gm) (w : Wd) (g : Nat → Int32) {k : Nat} (hk : k < 8) : (rdw γ (wset w k g)).1 (γ.1 + so k + 5) = some (iE γ 6 (vw 6 f_load g)) := rd_st γ w g hk 5 (by decide)
theorem rd_Left (γ : Gm) (w : Wd) (g : Nat → Int32) {k : Nat} (hk : k < 8) : (rdw γ (wset w k g)).1 (γ.1 + so k + 6) = some (iE γ 6 (vw 6 f_left g)) := rd_st γ w g hk 6 (by decide)
theorem rd_Level (γ : Gm) (w : Wd) (g : Nat → Int32) {k : Nat} (hk : k < 8) : (rdw γ (wset w k g)).1 (γ.1 + so k + 7) = some (iE γ 18 (vw 18 f_lev g)) := rd_st γ w g hk 7 (by decide)
theorem rd_Rest (γ : Gm) (w : Wd) (g : Nat → Int32) {k : Nat} (hk : k < 8) : (rdw γ (wset w k g)).1 (γ.1 + so k + 8) = some (iE γ 18 (vw 18 f_rest g)) := rd_st γ w g hk 8 (by decide)
def lA (j : Nat) : Nat := if j < 8 then so j + 9 else 3
theorem rd_List (γ : Gm) (w : Wd) {j : Nat} (hj : j < 9) : (rdw γ w).1 (γ.1 + lA j) = some (lsE (w.2.1 j)) := by
  by_cases h : j < 8
  · unfold lA
    rw [if_pos h, rdw_at γ _ (so_lt h (by decide)), so_ent γ h (by decide), so_lk h (by decide)]
    rfl
  · have : j = 8 := by omega
    subst this
    exact rdw_at γ w (i := 3) (by decide)
theorem rd_SList (γ : Gm) (w : Wd) {k : Nat} (hk : k < 8) : (rdw γ w).1 (γ.1 + so k + 9) = some (lsE (w.2.1 k)) := by
  have h := rd_List γ w (j := k) (by omega)
  unfold lA at h
  rw [if_pos hk] at h
  exact h
theorem rd_BT (γ : Gm) (w : Wd) : (rdw γ w).1 γ.1 = some (.inr (6, [.ref (γ.1 + 1), .ref (γ.1 + 4), .ref (γ.1 + 14), .ref (γ.1 + 24)])) := rdw_at γ w (i := 0) (by decide)
theorem rd_Text (γ : Gm) (w : Wd) : (rdw γ w).1 (γ.1 + 1) = some (.inr (3, [.ref (γ.1 + 2), .int (w.1 8 60), .ref (γ.1 + 3), .int (w.1 8 61), .int (w.1 8 62)])) := rdw_at γ w (i := 1) (by decide)
theorem rd_Bytes (γ : Gm) (w : Wd) : (rdw γ w).1 (γ.1 + 2) = some (iE γ 60 (vw 60 f_hts (w.1 8))) := rdw_at γ w (i := 2) (by decide)
theorem rd_TList (γ : Gm) (w : Wd) : (rdw γ w).1 (γ.1 + 3) = some (lsE (w.2.1 8)) := rdw_at γ w (i := 3) (by decide)
theorem rd_Hist (γ : Gm) (w : Wd) : (rdw γ w).1 (γ.1 + 24) = some (.inr (1, [.ref (γ.1 + 25), .int (w.1 9 0), .int (w.1 9 1)])) := rdw_at γ w (i := 24) (by decide)
theorem rd_HStates (γ : Gm) (w : Wd) : (rdw γ w).1 (γ.1 + 25) = some (rE γ 1 6 (fun q => some (γ.1 + so (q + 2)))) := rdw_at γ w (i := 25) (by decide)
theorem rd_Ord (γ : Gm) (w : Wd) {a : Nat} {v : Nat → Int32} (ha : γ.1 + 92 ≤ a) (h : w.2.2.1 a = some (.inr v)) : (rdw γ w).1 a = some (.inr (7, [.int (v 0), .int (v 1), .int (v 2), .int (v 3), .int (v 4)])) := by
  simp only [rdw]
  rw [if_neg (by omega), if_neg (by omega)]
  simp only [dynE, h]
theorem rd_Row (γ : Gm) (w : Wd) {j : Nat} (ha : γ.1 + 92 ≤ (w.2.1 j).2.2.1) (h : w.2.2.1 (w.2.1 j).2.2.1 = some (.inl j)) : (rdw γ w).1 (w.2.1 j).2.2.1 = some (rE γ 2 (w.2.1 j).2.2.2.1 (w.2.1 j).2.2.2.2) := by
  simp only [rdw]
  rw [if_neg (by omega), if_neg (by omega)]
  simp only [dynE, h, if_true]
/-! writing the world -/
theorem v_eqh {p : Program} {l : Launch} {e : Env} {R : Room} {s : State} {m : MethodId} {args : Array Value} {below : List Frame} {meth : Method} {c : Code} {γ : Gm} {Q : State → Prop} {h h' : HP} {k j pc : Nat} {L : List (Option Value)} {st : List Value} (q : h = h') (kk : V p l e R s m args below meth c γ Q h' k j pc L st) : V p l e R s m args below meth c γ Q h k j pc L st := by rw [q]; exact kk
/-- less of a picture -/
theorem v_le {p : Program} {l : Launch} {e : Env} {R : Room} {s : State} {m : MethodId} {args : Array Value} {below : List Frame} {meth : Method} {c : Code} {γ : Gm} {Q : State → Prop} {h h' : HP} {k j pc : Nat} {L : List (Option Value)} {st : List Value} (q : h'.2 = h.2 ∧ ∀ a x, h'.1 a = some x → h.1 a = some x) (kk : V p l e R s m args below meth c γ Q h' k j pc L st) : V p l e R s m args below meth c γ Q h k j pc L st :=
  fun H locs ls a b g => kk H locs ls ⟨by rw [q.1]; exact a.1, by rw [q.1]; exact a.2.1, fun x y hx => a.2.2 x y (q.2 x y hx)⟩ b g
theorem v_L {p : Program} {l : Launch} {e : Env} {R : Room} {s : State} {m : MethodId} {args : Array Value} {below : List Frame} {meth : Method} {c : Code} {γ : Gm} {Q : State → Prop} {h : HP} {k j pc : Nat} {L L' : List (Option Value)} {st : List Value} (hl : L'.length = L.length) (q : ∀ (i : Nat) (v : Value), L'[i]? = some (some v) → L[i]? = some (some v)) (kk : V p l e R s m args below meth c γ Q h k j pc L' st) : V p l e R s m args below meth c γ Q h k j pc L st :=
  fun H locs ls a b g => kk H locs ls a b ⟨g.1.trans hl.symm, g.2.1, fun i v hv => g.2.2 i v (q i v hv)⟩
theorem hset_at (h : HP) (a : Nat) (e : va_E) : (hset h a e).1 a = some e := va_up_self _ _ _
theorem hset_off (h : HP) {a b : Nat} (e : va_E) (hb : b ≠ a) : (hset h a e).1 b = h.1 b := va_up_ne _ _ hb
theorem rdw_off (γ : Gm) (w w' : Wd) {a : Nat} (h : ∀ i, i < 92 → a = γ.1 + i → ent γ i (w.1 (bk i)) (w.2.1 (lk i)) w.2.2.2.1 = ent γ i (w'.1 (bk i)) (w'.2.1 (lk i)) w'.2.2.2.1) (hd : dynE γ w a = dynE γ w' a) : (rdw γ w).1 a = (rdw γ w').1 a := by
  simp only [rdw]
  by_cases h1 : a < γ.1
  · rw [if_pos h1, if_pos h1]
  · rw [if_neg h1, if_neg h1]
    by_cases h2 : a < γ.1 + 92
    · rw [if_pos h2, if_pos h2]
      exact h (a - γ.1) (by omega) (by omega)
    · rw [if_neg h2, if_neg h2]; exact hd
theorem set_st (γ : Gm) (w : Wd) (g g' : Nat → Int32) {k : Nat} (hk : k < 8) (r0 : Nat) (h0 : r0 < 10) (e : va_E) (he : stE γ (so k) r0 g' (w.2.1 k) = some e) (hr : ∀ r, r < 10 → r ≠ r0 → stE γ (so k) r g' (w.2.1 k) = stE γ (so k) r g (w.2.1 k)) : hset (rdw γ (wset w k g)) (γ.1 + (so k + r0)) e = rdw γ (wset w k g') := by
  refine Prod.ext (funext fun a => ?_) rfl
  by_cases ha : a = γ.1 + (so k + r0)
  · rw [ha, hset_at, rd_st γ w g' hk r0 h0, he]
  · rw [hset_off _ _ ha]
    refine rdw_off γ _ _ (fun i hi hai => ?_) rfl
    by_cases hb : bk i = k
    · obtain ⟨r, hr1, rfl⟩ := bk_so hk hi hb
      have hne : r ≠ r0 := fun z => ha (by rw [hai, z])
      rw [so_ent γ hk hr1, so_ent γ hk hr1, so_bk hk hr1, so_lk hk hr1, ws_same, ws_same]
      exact (hr r hr1 hne).symm
    · rw [ws_ne _ _ hb, ws_ne _ _ hb]; rfl
theorem o_set {f : Nat → Int32} {i : Nat} {x : Int32} (h : i < 228 ∨ 233 ≤ i) : vw 5 f_set (upd f i x) = vw 5 f_set f := vw_off fun a ha => by unfold f_set; omega
theorem o_hts {f : Nat → Int32} {i : Nat} {x : Int32} (h : 120 ≤ i) : vw 120 f_hts (upd f i x) = vw 120 f_hts f := vw_off fun a ha => by unfold f_hts; omega
theorem o_load {f : Nat → Int32} {i : Nat} {x : Int32} (h : i < 120 ∨ 168 ≤ i ∨ i % 8 ≠ 0) : vw 6 f_load (upd f i x) = vw 6 f_load f := vw_off fun a ha => by unfold f_load; omega
theorem o_left {f : Nat → Int32} {i : Nat} {x : Int32} (h : i < 120 ∨ 168 ≤ i ∨ i % 8 ≠ 1) : vw 6 f_left (upd f i x) = vw 6 f_left f := vw_off fun a ha => by unfold f_left; omega
theorem o_lev {f : Nat → Int32} {i : Nat} {x : Int32} (h : i < 120 ∨ 168 ≤ i ∨ i % 8 < 2 ∨ 4 < i % 8) : vw 18 f_lev (upd f i x) = vw 18 f_lev f := vw_off fun a ha => by unfold f_lev; omega
theorem o_rest {f : Nat → Int32} {i : Nat} {x : Int32} (h : i < 120 ∨ 168 ≤ i ∨ i % 8 < 5) : vw 18 f_rest (upd f i x) = vw 18 f_rest f := vw_off fun a ha => by unfold f_rest; omega
theorem o_n {f : Nat → Int32} {k j : Nat} {x : Int32} (h : j ≠ k) : upd f k x j = f j := pk_un h
theorem r10 {P : Nat → Prop} (h0 : P 0) (h1 : P 1) (h2 : P 2) (h3 : P 3) (h4 : P 4) (h5 : P 5) (h6 : P 6) (h7 : P 7) (h8 : P 8) (h9 : P 9) : ∀ r, r < 10 → P r := by
  intro r hr
  rcases (by omega : r = 0 ∨ r = 1 ∨ r = 2 ∨ r = 3 ∨ r = 4 ∨ r = 5 ∨ r = 6 ∨ r = 7 ∨ r = 8 ∨ r = 9) with rfl | rfl | rfl | rfl | rfl | rfl | rfl | rfl | rfl | rfl <;> assumption
theorem up_time (γ : Gm) (w : Wd) (g : Nat → Int32) {k : Nat} (hk : k < 8) (x : Int32) : hset (rdw γ (wset w k g)) (γ.1 + so k) (.inr (2, [.ref (γ.1 + so k + 1), .ref (γ.1 + so k + 2), .ref (γ.1 + so k + 4), .ref (γ.1 + so k + 9), .int x, .int (g 224), .int (g 225), .int (g 226), .int (g 227)])) = rdw γ (wset w k (upd g 222 x)) := set_st γ w g (upd g 222 x) hk 0 (by decide) _ (by simp (disch := omega) only [stE, o_n, pk_us]) (r10 (P := fun r => r ≠ 0 → stE γ (so k) r _ (w.2.1 k) = stE γ (so k) r g (w.2.1 k)) (fun q => absurd rfl q) (fun _ => by simp (disch := omega) only [stE, o_set, o_hts, o_load, o_left, o_lev, o_rest]) (fun _ => rfl) (fun _ => by simp (disch := omega) only [stE, o_set, o_hts, o_load, o_left, o_lev, o_rest]) (fun _ => by simp (disch := omega) only [stE, o_n]) (fun _ => by simp (disch := omega) only [stE, o_set, o_hts, o_load, o_left, o_lev, o_rest]) (fun _ => by simp (disch := omega) only [stE, o_set, o_hts, o_load, o_left, o_lev, o_rest]) (fun _ => by simp (disch := omega) only [stE, o_set, o_hts, o_load, o_left, o_lev, o_rest]) (fun _ => by simp (disch := omega) only [stE, o_set, o_hts, o_load, o_left, o_lev, o_rest]) (fun _ => rfl))
theorem up_jams (γ : Gm) (w : Wd) (g : Nat → Int32) {k : Nat} (hk : k < 8) (x : Int32) : hset (rdw γ (wset w k g)) (γ.1 + so k) (.inr (2, [.ref (γ.1 + so k + 1), .ref (γ.1 + so k + 2), .ref (γ.1 + so k + 4), .ref (γ.1 + so k + 9), .int (g 222), .int x, .int (g 225), .int (g 226), .int (g 227)])) = rdw γ (wset w k (upd g 224 x)) := set_st γ w g (upd g 224 x) hk 0 (by decide) _ (by simp (disch := omega) only [stE, o_n, pk_us]) (r10 (P := fun r => r ≠ 0 → stE γ (so k) r _ (w.2.1 k) = stE γ (so k) r g (w.2.1 k)) (fun q => absurd rfl q) (fun _ => by simp (disch := omega) only [stE, o_set, o_hts, o_load, o_left, o_lev, o_rest]) (fun _ => rfl) (fun _ => by simp (disch := omega) only [stE, o_set, o_hts, o_load, o_left, o_lev, o_rest]) (fun _ => by simp (disch := omega) only [stE, o_n]) (fun _ => by simp (disch := omega) only [stE, o_set, o_hts, o_load, o_left, o_lev, o_rest]) (fun _ => by simp (disch := omega) only [stE, o_set, o_hts, o_load, o_left, o_lev, o_rest]) (fun _ => by simp (disch := omega) only [stE, o_set, o_hts, o_load, o_left, o_lev, o_rest]) (fun _ => by simp (disch := omega) only [stE, o_set, o_hts, o_load, o_left, o_lev, o_rest]) (fun _ => rfl))
theorem up_loaded (γ : Gm) (w : Wd) (g : Nat → Int32) {k : Nat} (hk : k < 8) (x : Int32) : hset (rdw γ (wset w k g)) (γ.1 + so k) (.inr (2, [.ref (γ.1 + so k + 1), .ref (γ.1 + so k + 2), .ref (γ.1 + so k + 4), .ref (γ.1 + so k + 9), .int (g 222), .int (g 224), .int x, .int (g 226), .int (g 227)])) = rdw γ (wset w k (upd g 225 x)) := set_st γ w g (upd g 225 x) hk 0 (by decide) _ (by simp (disch := omega) only [stE, o_n, pk_us]) (r10 (P := fun r => r ≠ 0 → stE γ (so k) r _ (w.2.1 k) = stE γ (so k) r g (w.2.1 k)) (fun q => absurd rfl q) (fun _ => by simp (disch := omega) only [stE, o_set, o_hts, o_load, o_left, o_lev, o_rest]) (fun _ => rfl) (fun _ => by simp (disch := omega) only [stE, o_set, o_hts, o_load, o_left, o_lev, o_rest]) (fun _ => by simp (disch := omega) only [stE, o_n]) (fun _ => by simp (disch := omega) only [stE, o_set, o_hts, o_load, o_left, o_lev, o_rest]) (fun _ => by simp (disch := omega) only [stE, o_set, o_hts, o_load, o_left, o_lev, o_rest]) (fun _ => by simp (disch := omega) only [stE, o_set, o_hts, o_load, o_left, o_lev, o_rest]) (fun _ => by simp (disch := omega) only [stE, o_set, o_hts, o_load, o_left, o_lev, o_rest]) (fun _ => rfl))
theorem up_lost (γ : Gm) (w : Wd) (g : Nat → Int32) {k : Nat} (hk : k < 8) (x : Int32) : hset (rdw γ (wset w k g)) (γ.1 + so k) (.inr (2, [.ref (γ.1 + so k + 1), .ref (γ.1 + so k + 2), .ref (γ.1 + so k + 4), .ref (γ.1 + so k + 9), .int (g 222), .int (g 224), .int (g 225), .int x, .int (g 227)])) = rdw γ (wset w k (upd g 226 x)) := set_st γ w g (upd g 226 x) hk 0 (by decide) _ (by simp (disch := omega) only [stE, o_n, pk_us]) (r10 (P := fun r => r ≠ 0 → stE γ (so k) r _ (w.2.1 k) = stE γ (so k) r g (w.2.1 k)) (fun q => absurd rfl q) (fun _ => by simp (disch := omega) only [stE, o_set, o_hts, o_load, o_left, o_lev, o_rest]) (fun _ => rfl) (fun _ => by simp (disch := omega) only [stE, o_set, o_hts, o_load, o_left, o_lev, o_rest]) (fun _ => by simp (disch := omega) only [stE, o_n]) (fun _ => by simp (disch := omega) only [stE, o_set, o_hts, o_load, o_left, o_lev, o_rest]) (fun _ => by simp (disch := omega) only [stE, o_set, o_hts, o_load, o_left, o_lev, o_rest]) (fun _ => by simp (disch := omega) only [stE, o_set, o_hts, o_load, o_left, o_lev, o_rest]) (fun _ => by simp (disch := omega) only [stE, o_set, o_hts, o_load, o_left, o_lev, o_rest]) (fun _ => rfl))
theorem up_taken (γ : Gm) (w : Wd) (g : Nat → Int32) {k : Nat} (hk : k < 8) (x : Int32) : hset (rdw γ (wset w k g)) (γ.1 + so k) (.inr (2, [.ref (γ.1 + so k + 1), .ref (γ.1 + so k + 2), .ref (γ.1 + so k + 4), .ref (γ.1 + so k + 9), .int (g 222), .int (g 224), .int (g 225), .int (g 226), .int x])) = rdw γ (wset w k (upd g 227 x)) := set_st γ w g (upd g 227 x) hk 0 (by decide) _ (by simp (disch := omega) only [stE, o_n, pk_us]) (r10 (P := fun r => r ≠ 0 → stE γ (so k) r _ (w.2.1 k) = stE γ (so k) r g (w.2.1 k)) (fun q => absurd rfl q) (fun _ => by simp (disch := omega) only [stE, o_set, o_hts, o_load, o_left, o_lev, o_rest]) (fun _ => rfl) (fun _ => by simp (disch := omega) only [stE, o_set, o_hts, o_load, o_left, o_lev, o_rest]) (fun _ => by simp (disch := omega) only [stE, o_n]) (fun _ => by simp (disch := omega) only [stE, o_set, o_hts, o_load, o_left, o_lev, o_rest]) (fun _ => by simp (disch := omega) only [stE, o_set, o_hts, o_load, o_left, o_lev, o_rest]) (fun _ => by simp (disch := omega) only [stE, o_set, o_hts, o_load, o_left, o_lev, o_rest]) (fun _ => by simp (disch := omega) only [stE, o_set, o_hts, o_load, o_left, o_lev, o_rest]) (fun _ => rfl))
theorem up_wagons (γ : Gm) (w : Wd) (g : Nat → Int32) {k : Nat} (hk : k < 8) (x : Int32) : hset (rdw γ (wset w k g)) (γ.1 + so k + 4) (.inr (5, [.int x, .int (g 219), .int (g 220), .int (g 221), .ref (γ.1 + so k + 5), .ref (γ.1 + so k + 6), .ref (γ.1 + so k + 7), .ref (γ.1 + so k + 8)])) = rdw γ (wset w k (upd g 218 x)) := set_st γ w g (upd g 218 x) hk 4 (by decide) _ (by simp (disch := omega) only [stE, o_n, pk_us]) (r10 (P := fun r => r ≠ 4 → stE γ (so k) r _ (w.2.1 k) = stE γ (so k) r g (w.2.1 k)) (fun _ => by simp (disch := omega) only [stE, o_n]) (fun _ => by simp (disch := omega) only [stE, o_set, o_hts, o_load, o_left, o_lev, o_rest]) (fun _ => rfl) (fun _ => by simp (disch := omega) only [stE, o_set, o_hts, o_load, o_left, o_lev, o_rest]) (fun q => absurd rfl q) (fun _ => by simp (disch := omega) only [stE, o_set, o_hts, o_load, o_left, o_lev, o_rest]) (fun _ => by simp (disch := omega) only [stE, o_set, o_hts, o_load, o_left, o_lev, o_rest]) (fun _ => by simp (disch := omega) only [stE, o_set, o_hts, o_load, o_left, o_lev, o_rest]) (fun _ => by simp (disch := omega) only [stE, o_set, o_hts, o_load, o_left, o_lev, o_rest]) (fun _ => rfl))
theorem up_place (γ : Gm) (w : Wd) (g : Nat → Int32) {k : Nat} (hk : k < 8) (x : Int32) : hset (rdw γ (wset w k g)) (γ.1 + so k + 4) (.inr (5, [.int (g 218), .int x, .int (g 220), .int (g 221), .ref (γ.1 + so k + 5), .ref (γ.1 + so k + 6), .ref (γ.1 + so k + 7), .ref (γ.1 + so k + 8)])) = rdw γ (wset w k (upd g 219 x)) := set_st γ w g (upd g 219 x) hk 4 (by decide) _ (by simp (disch := omega) only [stE, o_n, pk_us]) (r10 (P := fun r => r ≠ 4 → stE γ (so k) r _ (w.2.1 k) = stE γ (so k) r g (w.2.1 k)) (fun _ => by simp (disch := omega) only [stE, o_n]) (fun _ => by simp (disch := omega) only [stE, o_set, o_hts, o_load, o_left, o_lev, o_rest]) (fun _ => rfl) (fun _ => by simp (disch := omega) only [stE, o_set, o_hts, o_load, o_left, o_lev, o_rest]) (fun q => absurd rfl q) (fun _ => by simp (disch := omega) only [stE, o_set, o_hts, o_load, o_left, o_lev, o_rest]) (fun _ => by simp (disch := omega) only [stE, o_set, o_hts, o_load, o_left, o_lev, o_rest]) (fun _ => by simp (disch := omega) only [stE, o_set, o_hts, o_load, o_left, o_lev, o_rest]) (fun _ => by simp (disch := omega) only [stE, o_set, o_hts, o_load, o_left, o_lev, o_rest]) (fun _ => rfl))
theorem up_speed (γ : Gm) (w : Wd) (g : Nat → Int32) {k : Nat} (hk : k < 8) (x : Int32) : hset (rdw γ (wset w k g)) (γ.1 + so k + 4) (.inr (5, [.int (g 218), .int (g 219), .int x, .int (g 221), .ref (γ.1 + so k + 5), .ref (γ.1 + so k + 6), .ref (γ.1 + so k + 7), .ref (γ.1 + so k + 8)])) = rdw γ (wset w k (upd g 220 x)) := set_st γ w g (upd g 220 x) hk 4 (by decide) _ (by simp (disch := omega) only [stE, o_n, pk_us]) (r10 (P := fun r => r ≠ 4 → stE γ (so k) r _ (w.2.1 k) = stE γ (so k) r g (w.2.1 k)) (fun _ => by simp (disch := omega) only [stE, o_n]) (fun _ => by simp (disch := omega) only [stE, o_set, o_hts, o_load, o_left, o_lev, o_rest]) (fun _ => rfl) (fun _ => by simp (disch := omega) only [stE, o_set, o_hts, o_load, o_left, o_lev, o_rest]) (fun q => absurd rfl q) (fun _ => by simp (disch := omega) only [stE, o_set, o_hts, o_load, o_left, o_lev, o_rest]) (fun _ => by simp (disch := omega) only [stE, o_set, o_hts, o_load, o_left, o_lev, o_rest]) (fun _ => by simp (disch := omega) only [stE, o_set, o_hts, o_load, o_left, o_lev, o_rest]) (fun _ => by simp (disch := omega) only [stE, o_set, o_hts, o_load, o_left, o_lev, o_rest]) (fun _ => rfl))
theorem up_wish (γ : Gm) (w : Wd) (g : Nat → Int32) {k : Nat} (hk : k < 8) (x : Int32) : hset (rdw γ (wset w k g)) (γ.1 + so k + 4) (.inr (5, [.int (g 218), .int (g 219), .int (g 220), .int x, .ref (γ.1 + so k + 5), .ref (γ.1 + so k + 6), .ref (γ.1 + so k + 7), .ref (γ.1 + so k + 8)])) = rdw γ (wset w k (upd g 221 x)) := set_st γ w g (upd g 221 x) hk 4 (by decide) _ (by simp (disch := omega) only [stE, o_n, pk_us]) (r10 (P := fun r => r ≠ 4 → stE γ (so k) r _ (w.2.1 k) = stE γ (so k) r g (w.2.1 k)) (fun _ => by simp (disch := omega) only [stE, o_n]) (fun _ => by simp (disch := omega) only [stE, o_set, o_hts, o_load, o_left, o_lev, o_rest]) (fun _ => rfl) (fun _ => by simp (disch := omega) only [stE, o_set, o_hts, o_load, o_left, o_lev, o_rest]) (fun q => absurd rfl q) (fun _ => by simp (disch := omega) only [stE, o_set, o_hts, o_load, o_left, o_lev, o_rest]) (fun _ => by simp (disch := omega) only [stE, o_set, o_hts, o_load, o_left, o_lev, o_rest]) (fun _ => by simp (disch := omega) only [stE, o_set, o_hts, o_load, o_left, o_lev, o_rest]) (fun _ => by simp (disch := omega) only [stE, o_set, o_hts, o_load, o_left, o_lev, o_rest]) (fun _ => rfl))
theorem up_set (γ : Gm) (w : Wd) (g : Nat → Int32) {k : Nat} (hk : k < 8) {i : Nat} (hi : i < 5) (x : Int32) : hset (rdw γ (wset w k g)) (γ.1 + so k + 1) (iE γ 5 (upd (vw 5 f_set g) i x)) = rdw γ (wset w k (upd g (f_set i) x)) := by
  have hf : f_set i = f_set i := rfl
  rw [vw_up x hi (fun a ha q => by unfold f_set at q; omega)]
  unfold f_set at hf
  exact set_st γ w g (upd g (f_set i) x) hk 1 (by decide) _ rfl (by unfold f_set; exact r10 (P := fun r => r ≠ 1 → stE γ (so k) r _ (w.2.1 k) = stE γ (so k) r g (w.2.1 k)) (fun _ => by simp (disch := omega) only [stE, o_n]) (fun q => absurd rfl q) (fun _ => rfl) (fun _ => by simp (disch := omega) only [stE, o_set, o_hts, o_load, o_left, o_lev, o_rest]) (fun _ => by simp (disch := omega) only [stE, o_n]) (fun _ => by simp (disch := omega) only [stE, o_set, o_hts, o_load, o_left, o_lev, o_rest]) (fun _ => by simp (disch := omega) only [stE, o_set, o_hts, o_load, o_left, o_lev, o_rest]) (fun _ => by simp (disch := omega) only [stE, o_set, o_hts, o_load, o_left, o_lev, o_rest]) (fun _ => by simp (disch := omega) only [stE, o_set, o_hts, o_load, o_left, o_lev, o_rest]) (fun _ => rfl))
theorem up_hts (γ : Gm) (w : Wd) (g : Nat → Int32) {k : Nat} (hk : k < 8) {i : Nat} (hi : i < 120) (x : Int32) : hset (rdw γ (wset w k g)) (γ.1 + so k + 3) (iE γ 120 (upd (vw 120 f_hts g) i x)) = rdw γ (wset w k (upd g (f_hts i) x)) := by
  have hf : f_hts i = f_hts i := rfl
  rw [vw_up x hi (fun a ha q => by unfold f_hts at q; omega)]
  unfold f_hts at hf
  exact set_st γ w g (upd g (f_hts i) x) hk 3 (by decide) _ rfl (by unfold f_hts; exact r10 (P := fun r => r ≠ 3 → stE γ (so k) r _ (w.2.1 k) = stE γ (so k) r g (w.2.1 k)) (fun _ => by simp (disch := omega) only [stE, o_n]) (fun _ => by simp (disch := omega) only [stE, o_set, o_hts, o_load, o_left, o_lev, o_rest]) (fun _ => rfl) (fun q => absurd rfl q) (fun _ => by simp (disch := omega) only [stE, o_n]) (fun _ => by simp (disch := omega) only [stE, o_set, o_hts, o_load, o_left, o_lev, o_rest]) (fun _ => by simp (disch := omega) only [stE, o_set, o_hts, o_load, o_left, o_lev, o_rest]) (fun _ => by simp (disch := omega) only [stE, o_set, o_hts, o_load, o_left, o_lev, o_rest]) (fun _ => by simp (disch := omega) only [stE, o_set, o_hts, o_load, o_left, o_lev, o_rest]) (fun _ => rfl))
theorem up_load (γ : Gm) (w : Wd) (g : Nat → Int32) {k : Nat} (hk : k < 8) {i : Nat} (hi : i < 6) (x : Int32) : hset (rdw γ (wset w k g)) (γ.1 + so k + 5) (iE γ 6 (upd (vw 6 f_load g) i x)) = rdw γ (wset w k (upd g (f_load i) x)) := by
  have hf : f_load i = f_load i := rfl
  rw [vw_up x hi (fun a ha q => by unfold f_load at q; omega)]
  unfold f_load at hf
  exact set_st γ w g (upd g (f_load i) x) hk 5 (by decide) _ rfl (by unfold f_load; exact r10 (P := fun r => r ≠ 5 → stE γ (so k) r _ (w.2.1 k) = stE γ (so k) r g (w.2.1 k)) (fun _ => by simp (disch := omega) only [stE, o_n]) (fun _ => by simp (disch := omega) only [stE, o_set, o_hts, o_load, o_left, o_lev, o_rest]) (fun _ => rfl) (fun _ => by simp (disch := omega) only [stE, o_set, o_hts, o_load, o_left, o_lev, o_rest]) (fun _ => by simp (disch := omega) only [stE, o_n]) (fun q => absurd rfl q) (fun _ => by simp (disch := omega) only [stE, o_set, o_hts, o_load, o_left, o_lev, o_rest]) (fun _ => by simp (disch := omega) only [stE, o_set, o_hts, o_load, o_left, o_lev, o_rest]) (fun _ => by simp (disch := omega) only [stE, o_set, o_hts, o_load, o_left, o_lev, o_rest]) (fun _ => rfl))
theorem up_left (γ : Gm) (w : Wd) (g : Nat → Int32) {k : Nat} (hk : k < 8) {i : Nat} (hi : i < 6) (x : Int32) : hset (rdw γ (wset w k g)) (γ.1 + so k + 6) (iE γ 6 (upd (vw 6 f_left g) i x)) = rdw γ (wset w k (upd g (f_left i) x)) := by
  have hf : f_left i = f_left i := rfl
  rw [vw_up x hi (fun a ha q => by unfold f_left at q; omega)]
  unfold f_left at hf
  exact set_st γ w g (upd g (f_left i) x) hk 6 (by decide) _ rfl (by unfold f_left; exact r10 (P := fun r => r ≠ 6 → stE γ (so k) r _ (w.2.1 k) = stE γ (so k) r g (w.2.1 k)) (fun _ => by simp (disch := omega) only [stE, o_n]) (fun _ => by simp (disch := omega) only [stE, o_set, o_hts, o_load, o_left, o_lev, o_rest]) (fun _ => rfl) (fun _ => by simp (disch := omega) only [stE, o_set, o_hts, o_load, o_left, o_lev, o_rest]) (fun _ => by simp (disch := omega) only [stE, o_n]) (fun _ => by simp (disch := omega) only [stE, o_set, o_hts, o_load, o_left, o_lev, o_rest]) (fun q => absurd rfl q) (fun _ => by simp (disch := omega) only [stE, o_set, o_hts, o_load, o_left, o_lev, o_rest]) (fun _ => by simp (disch := omega) only [stE, o_set, o_hts, o_load, o_left, o_lev, o_rest]) (fun _ => rfl))
theorem up_lev (γ : Gm) (w : Wd) (g : Nat → Int32) {k : Nat} (hk : k < 8) {i : Nat} (hi : i < 18) (x : Int32) : hset (rdw γ (wset w k g)) (γ.1 + so k + 7) (iE γ 18 (upd (vw 18 f_lev g) i x)) = rdw γ (wset w k (upd g (f_lev i) x)) := by
  have hf : f_lev i = f_lev i := rfl
  rw [vw_up x hi (fun a ha q => by unfold f_lev at q; omega)]
  unfold f_lev at hf
  exact set_st γ w g (upd g (f_lev i) x) hk 7 (by decide) _ rfl (by unfold f_lev; exact r10 (P := fun r => r ≠ 7 → stE γ (so k) r _ (w.2.1 k) = stE γ (so k) r g (w.2.1 k)) (fun _ => by simp (disch := omega) only [stE, o_n]) (fun _ => by simp (disch := omega) only [stE, o_set, o_hts, o_load, o_left, o_lev, o_rest]) (fun _ => rfl) (fun _ => by simp (disch := omega) only [stE, o_set, o_hts, o_load, o_left, o_lev, o_rest]) (fun _ => by simp (disch := omega) only [stE, o_n]) (fun _ => by simp (disch := omega) only [stE, o_set, o_hts, o_load, o_left, o_lev, o_rest]) (fun _ => by simp (disch := omega) only [stE, o_set, o_hts, o_load, o_left, o_lev, o_rest]) (fun q => absurd rfl q) (fun _ => by simp (disch := omega) only [stE, o_set, o_hts, o_load, o_left, o_lev, o_rest]) (fun _ => rfl))
theorem up_rest (γ : Gm) (w : Wd) (g : Nat → Int32) {k : Nat} (hk : k < 8) {i : Nat} (hi : i < 18) (x : Int32) : hset (rdw γ (wset w k g)) (γ.1 + so k + 8) (iE γ 18 (upd (vw 18 f_rest g) i x)) = rdw γ (wset w k (upd g (f_rest i) x)) := by
  have hf : f_rest i = f_rest i := rfl
  rw [vw_up x hi (fun a ha q => by unfold f_rest at q; omega)]
  unfold f_rest at hf
  exact set_st γ w g (upd g (f_rest i) x) hk 8 (by decide) _ rfl (by unfold f_rest; exact r10 (P := fun r => r ≠ 8 → stE γ (so k) r _ (w.2.1 k) = stE γ (so k) r g (w.2.1 k)) (fun _ => by simp (disch := omega) only [stE, o_n]) (fun _ => by simp (disch := omega) only [stE, o_set, o_hts, o_load, o_left, o_lev, o_rest]) (fun _ => rfl) (fun _ => by simp (disch := omega) only [stE, o_set, o_hts, o_load, o_left, o_lev, o_rest]) (fun _ => by simp (disch := omega) only [stE, o_n]) (fun _ => by simp (disch := omega) only [stE, o_set, o_hts, o_load, o_left, o_lev, o_rest]) (fun _ => by simp (disch := omega) only [stE, o_set, o_hts, o_load, o_left, o_lev, o_rest]) (fun _ => by simp (disch := omega) only [stE, o_set, o_hts, o_load, o_left, o_lev, o_rest]) (fun q => absurd rfl q) (fun _ => rfl))
theorem set_one (γ : Gm) (w : Wd) (g g' : Nat → Int32) (b i0 : Nat) (h0 : i0 < 92) (hb : bk i0 = b) (e : va_E) (he : ent γ i0 g' (w.2.1 (lk i0)) w.2.2.2.1 = some e) (hr : ∀ i, i < 92 → bk i = b → i ≠ i0 → ent γ i g' (w.2.1 (lk i)) w.2.2.2.1 = ent γ i g (w.2.1 (lk i)) w.2.2.2.1) : hset (rdw γ (wset w b g)) (γ.1 + i0) e = rdw γ (wset w b g') := by
  refine Prod.ext (funext fun a => ?_) rfl
  by_cases ha : a = γ.1 + i0
  · rw [ha, hset_at, rdw_at γ _ h0, hb, ws_same]; exact he.symm
  · rw [hset_off _ _ ha]
    refine rdw_off γ _ _ (fun i hi hai => ?_) rfl
    have hne : i ≠ i0 := fun z => ha (by rw [hai, z])
    by_cases hbi : bk i = b
    · rw [hbi, ws_same, ws_same]; exact (hr i hi hbi hne).symm
    · rw [ws_ne _ _ hbi, ws_ne _ _ hbi]; rfl
theorem bk_big {i b : Nat} (hi : i < 92) (h : bk i = b) (hb : 8 ≤ b) : (b = 8 ∧ i < 4) ∨ (b = 9 ∧ (i = 24 ∨ i = 25)) ∨ (b = 10 ∧ i = 86) ∨ (i = b + 77 ∧ 10 ≤ b ∧ b < 15) := by
  unfold bk at h
  by_cases h1 : i < 4
  · rw [if_pos h1] at h; omega
  · rw [if_neg h1] at h
    by_cases h2 : i < 24
    · rw [if_pos h2] at h; omega
    · rw [if_neg h2] at h
      by_cases h3 : i < 26
      · rw [if_pos h3] at h; omega
      · rw [if_neg h3] at h
        by_cases h4 : i < 86
        · rw [if_pos h4] at h; omega
        · rw [if_neg h4] at h
          by_cases h5 : i = 86
          · rw [if_pos h5] at h; omega
          · rw [if_neg h5] at h; omega
theorem up_Bytes (γ : Gm) (w : Wd) (g : Nat → Int32) {i : Nat} (hi : i < 60) (x : Int32) : hset (rdw γ (wset w 8 g)) (γ.1 + 2) (iE γ 60 (upd (vw 60 f_hts g) i x)) = rdw γ (wset w 8 (upd g i x)) := by
  rw [vw_up (φ := f_hts) x hi (fun a ha q => q)]
  exact set_one γ w g (upd g (f_hts i) x) 8 2 (by decide) rfl _ rfl (fun (j : Nat) (hj : j < 92) (hb : bk j = 8) (hne : j ≠ 2) => by
    have h9 := bk_big hj hb (by decide)
    have hj92 : j < 92 := hj
    have hne9 := hne
    have h3 : j = 0 ∨ j = 1 ∨ j = 3 := by omega
    rcases h3 with rfl | rfl | rfl
    · rfl
    · show some _ = some _
      unfold f_hts
      rw [o_n (by omega), o_n (by omega), o_n (by omega)]
    · rfl)
theorem up_tlen (γ : Gm) (w : Wd) (g : Nat → Int32) (x : Int32) : hset (rdw γ (wset w 8 g)) (γ.1 + 1) (.inr (3, [.ref (γ.1 + 2), .int x, .ref (γ.1 + 3), .int (g 61), .int (g 62)])) = rdw γ (wset w 8 (upd g 60 x)) := by
  exact set_one γ w g (upd g 60 x) 8 1 (by decide) rfl _ rfl (fun (j : Nat) (hj : j < 92) (hb : bk j = 8) (hne : j ≠ 1) => by
    have h9 := bk_big hj hb (by decide)
    have hj92 : j < 92 := hj
    have hne9 := hne
    have h3 : j = 0 ∨ j = 2 ∨ j = 3 := by omega
    rcases h3 with rfl | rfl | rfl
    · rfl
    · show some (iE _ _ _) = some (iE _ _ _)
      rw [vw_off (n := 60) (φ := f_hts) (fun a ha => by unfold f_hts; omega)]
    · rfl)
theorem up_tfault (γ : Gm) (w : Wd) (g : Nat → Int32) (x : Int32) : hset (rdw γ (wset w 8 g)) (γ.1 + 1) (.inr (3, [.ref (γ.1 + 2), .int (g 60), .ref (γ.1 + 3), .int x, .int (g 62)])) = rdw γ (wset w 8 (upd g 61 x)) := by
  exact set_one γ w g (upd g 61 x) 8 1 (by decide) rfl _ rfl (fun (j : Nat) (hj : j < 92) (hb : bk j = 8) (hne : j ≠ 1) => by
    have h9 := bk_big hj hb (by decide)
    have hj92 : j < 92 := hj
    have hne9 := hne
    have h3 : j = 0 ∨ j = 2 ∨ j = 3 := by omega
    rcases h3 with rfl | rfl | rfl
    · rfl
    · show some (iE _ _ _) = some (iE _ _ _)
      rw [vw_off (n := 60) (φ := f_hts) (fun a ha => by unfold f_hts; omega)]
    · rfl)
theorem up_tat (γ : Gm) (w : Wd) (g : Nat → Int32) (x : Int32) : hset (rdw γ (wset w 8 g)) (γ.1 + 1) (.inr (3, [.ref (γ.1 + 2), .int (g 60), .ref (γ.1 + 3), .int (g 61), .int x])) = rdw γ (wset w 8 (upd g 62 x)) := by
  exact set_one γ w g (upd g 62 x) 8 1 (by decide) rfl _ rfl (fun (j : Nat) (hj : j < 92) (hb : bk j = 8) (hne : j ≠ 1) => by
    have h9 := bk_big hj hb (by decide)
    have hj92 : j < 92 := hj
    have hne9 := hne
    have h3 : j = 0 ∨ j = 2 ∨ j = 3 := by omega
    rcases h3 with rfl | rfl | rfl
    · rfl
    · show some (iE _ _ _) = some (iE _ _ _)
      rw [vw_off (n := 60) (φ := f_hts) (fun a ha => by unfold f_hts; omega)]
    · rfl)
theorem up_next (γ : Gm) (w : Wd) (g : Nat → Int32) (x : Int32) : hset (rdw γ (wset w 9 g)) (γ.1 + 24) (.inr (1, [.ref (γ.1 + 25), .int x, .int (g 1)])) = rdw γ (wset w 9 (upd g 0 x)) := by
  exact set_one γ w g (upd g 0 x) 9 24 (by decide) rfl _ rfl (fun (j : Nat) (hj : j < 92) (hb : bk j = 9) (hne : j ≠ 24) => by
    have h9 := bk_big hj hb (by decide)
    have hj92 : j < 92 := hj
    have hne9 := hne
    have h3 : j = 25 := by omega
    rcases h3 with rfl
    rfl)
theorem up_size (γ : Gm) (w : Wd) (g : Nat → Int32) (x : Int32) : hset (rdw γ (wset w 9 g)) (γ.1 + 24) (.inr (1, [.ref (γ.1 + 25), .int (g 0), .int x])) = rdw γ (wset w 9 (upd g 1 x)) := by
  exact set_one γ w g (upd g 1 x) 9 24 (by decide) rfl _ rfl (fun (j : Nat) (hj : j < 92) (hb : bk j = 9) (hne : j ≠ 24) => by
    have h9 := bk_big hj hb (by decide)
    have hj92 : j < 92 := hj
    have hne9 := hne
    have h3 : j = 25 := by omega
    rcases h3 with rfl
    rfl)

theorem rd_H (γ : Gm) (w : Wd) : (rdw γ w).1 (γ.1 + 86) = some (iE γ 40 (pkh (w.1 10))) := rdw_at γ w (i := 86) (by decide)
theorem rd_W (γ : Gm) (w : Wd) : (rdw γ w).1 (γ.1 + 87) = some (iE γ 64 (vw 62 f_w (w.1 10))) := rdw_at γ w (i := 87) (by decide)
theorem rd_Q (γ : Gm) (w : Wd) : (rdw γ w).1 (γ.1 + 88) = some (iE γ 64 (fun _ => 0)) := rdw_at γ w (i := 88) (by decide)
theorem f_w_hi (i : Nat) : 120 ≤ f_w i := by unfold f_w; split <;> (try split) <;> omega
theorem f_w_inj {a b : Nat} (h : f_w a = f_w b) : a = b := by
  unfold f_w at h
  by_cases h1 : a < 48 <;> by_cases h2 : b < 48 <;> by_cases h3 : a < 53 <;> by_cases h4 : b < 53 <;> simp only [h1, h2, h3, h4, if_true, if_false] at h <;> omega
theorem pkh_off {f : Nat → Int32} {i : Nat} {x : Int32} (h : 120 ≤ i) : pkh (upd f i x) = pkh f := by
  funext c
  by_cases hc : c < 40
  · simp only [pkh, if_pos hc, pk3]
    rw [pk_un (by omega), pk_un (by omega), pk_un (by omega)]
  · simp only [pkh, if_neg hc]
theorem vw_w_off {f : Nat → Int32} {i : Nat} {x : Int32} (h : i < 120) : vw 62 f_w (upd f i x) = vw 62 f_w f := vw_off fun a _ => by have := f_w_hi a; omega
theorem up_W (γ : Gm) (w : Wd) (g : Nat → Int32) {i : Nat} (hi : i < 62) (x : Int32) : hset (rdw γ (wset w 10 g)) (γ.1 + 87) (iE γ 64 (upd (vw 62 f_w g) i x)) = rdw γ (wset w 10 (upd g (f_w i) x)) := by
  rw [vw_up (φ := f_w) x hi (fun a ha q => f_w_inj q)]
  exact set_one γ w g (upd g (f_w i) x) 10 87 (by decide) rfl _ rfl (fun (j : Nat) (hj : j < 92) (hb : bk j = 10) (hne : j ≠ 87) => by
    have h9 := bk_big hj hb (by decide)
    have h86 : j = 86 := by omega
    subst h86
    show some (iE _ _ _) = some (iE _ _ _)
    rw [pkh_off (f_w_hi i)])
theorem pkh_up (g : Nat → Int32) {c s : Nat} (hc : c < 40) (hs : s < 3) (u : Int32) : upd (pkh g) c (pkh g c + (if s = 0 then nI 1 else if s = 1 then nI 1024 else nI 1048576) * u) = pkh (upd g (3 * c + s) (g (3 * c + s) + u)) := by
  funext a
  by_cases ha : a = c
  · subst ha
    rw [pk_us]
    simp only [pkh, if_pos hc, pk3]
    have e1 : ∀ z, z ≠ s → upd g (3 * a + s) (g (3 * a + s) + u) (3 * a + z) = g (3 * a + z) := fun z hz => pk_un (by omega)
    have e2 : upd g (3 * a + s) (g (3 * a + s) + u) (3 * a + s) = g (3 * a + s) + u := pk_us
    rcases (by omega : s = 0 ∨ s = 1 ∨ s = 2) with rfl | rfl | rfl
    · rw [if_pos rfl, e2, e1 1 (by decide), e1 2 (by decide), show nI 1 * u = u from Int32.one_mul u]
      ac_rfl
    · rw [if_neg (by decide), if_pos rfl, e2, e1 0 (by decide), e1 2 (by decide), Int32.mul_add]
      ac_rfl
    · rw [if_neg (by decide), if_neg (by decide), e2, e1 0 (by decide), e1 1 (by decide), Int32.mul_add]
      ac_rfl
  · rw [pk_un ha]
    by_cases h4 : a < 40
    · simp only [pkh, if_pos h4, pk3]
      rw [pk_un (by omega), pk_un (by omega), pk_un (by omega)]
    · simp only [pkh, if_neg h4]
theorem up_H (γ : Gm) (w : Wd) (g : Nat → Int32) {c s : Nat} (hc : c < 40) (hs : s < 3) (u : Int32) : hset (rdw γ (wset w 10 g)) (γ.1 + 86) (iE γ 40 (upd (pkh g) c (pkh g c + (if s = 0 then nI 1 else if s = 1 then nI 1024 else nI 1048576) * u))) = rdw γ (wset w 10 (upd g (3 * c + s) (g (3 * c + s) + u))) := by
  rw [pkh_up g hc hs u]
  exact set_one γ w g (upd g (3 * c + s) (g (3 * c + s) + u)) 10 86 (by decide) rfl _ rfl (fun (j : Nat) (hj : j < 92) (hb : bk j = 10) (hne : j ≠ 86) => by
    have h9 := bk_big hj hb (by decide)
    have h87 : j = 87 := by omega
    subst h87
    show some (iE _ _ _) = some (iE _ _ _)
    rw [vw_w_off (by omega)])
