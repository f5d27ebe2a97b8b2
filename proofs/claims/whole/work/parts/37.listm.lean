theorem cx_env {p : Program} {s : State} {m : MethodId} {args : Array Value} {meth : Method} {c : Code} {γ : Gm} {y : MethodName} {cc : ByteArray} {nL : Nat} {ret : Option FieldType} (X : Cx p s m args meth c γ y cc nL ret) : EnvG γ s := X.2.2.2.2.2.2.2.1
theorem rl_List (γ : Gm) {W : Wd} {j : Nat} {mc : Int32} {q d c : Nat} {row : Nat → Option Nat} (hj : j < 9) (hv : W.2.1 j = (mc, q, d, c, row)) : (rdw γ W).1 (γ.1 + lA j) = some (.inr (0, [.int mc, .ref d, .int (nI q)])) := by rw [rd_List γ W hj, hv]; rfl
theorem rl_Row (γ : Gm) {W : Wd} {j : Nat} {mc : Int32} {q d c : Nat} {row : Nat → Option Nat} (hv : W.2.1 j = (mc, q, d, c, row)) (hd : γ.1 + 92 ≤ d) (hy : W.2.2.1 d = some (.inl j)) : (rdw γ W).1 d = some (rE γ 2 c row) := by
  rw [rdw_hi γ W hd, dyn_inl γ W hy, hv, if_pos rfl]
theorem cx_cast {p : Program} {s : State} {m : MethodId} {args : Array Value} {meth : Method} {c : Code} {γ : Gm} {y : MethodName} {cc : ByteArray} {nL : Nat} {ret : Option FieldType} (X : Cx p s m args meth c γ y cc nL ret) : va_Nw (.castable "BallastTrain$Order" "java/lang/Object") s := (cx_env X).2.2.2.2.2.2.2.2.2
theorem up_lrow' (γ : Gm) {W : Wd} {j : Nat} {mc : Int32} {q d c : Nat} {row : Nat → Option Nat} (hj : j < 9) (hv : W.2.1 j = (mc, q, d, c, row)) (hd : γ.1 + 92 ≤ d) (hy : W.2.2.1 d = some (.inl j)) (row' : Nat → Option Nat) : hset (rdw γ W) d (rE γ 2 c row') = rdw γ (wl W j (mc, q, d, c, row')) := by
  have h9 := up_lrow γ W hj (by rw [hv]; exact hd) (by rw [hv]; exact hy) row'
  rw [hv] at h9
  exact h9
theorem up_l' (γ : Gm) {W : Wd} {j : Nat} {mc : Int32} {q d c : Nat} {row : Nat → Option Nat} (hj : j < 9) (hv : W.2.1 j = (mc, q, d, c, row)) (mc' : Int32) (q' : Nat) : hset (rdw γ W) (γ.1 + lA j) (.inr (0, [.int mc', .ref d, .int (nI q')])) = rdw γ (wl W j (mc', q', d, c, row)) := up_l γ W hj (mc', q', d, c, row) (by rw [hv])
theorem cx_empZ {p : Program} {s : State} {m : MethodId} {args : Array Value} {meth : Method} {c : Code} {γ : Gm} {y : MethodName} {cc : ByteArray} {nL : Nat} {ret : Option FieldType} (X : Cx p s m args meth c γ y cc nL ret) : va_Z "java/util/ArrayList" "DEFAULTCAPACITY_EMPTY_ELEMENTDATA" "[Ljava/lang/Object;" (.ref (γ.2.2.2 2)) (Ag γ) s s.heap := (cx_env X).2.2.1.2.2.1.1
theorem cx_empT {p : Program} {s : State} {m : MethodId} {args : Array Value} {meth : Method} {c : Code} {γ : Gm} {y : MethodName} {cc : ByteArray} {nL : Nat} {ret : Option FieldType} (X : Cx p s m args meth c γ y cc nL ret) : va_T (.object "java/lang/Object") (γ.2.2.2 2) 0 (fun _ => .null) (Ag γ) s s.heap := (cx_env X).2.2.1.2.2.1.2
theorem cx_AO {p : Program} {s : State} {m : MethodId} {args : Array Value} {meth : Method} {c : Code} {γ : Gm} {y : MethodName} {cc : ByteArray} {nL : Nat} {ret : Option FieldType} (X : Cx p s m args meth c γ y cc nL ret) : va_AO "java/lang/Object" s := (cx_env X).2.2.2.2.2.2.1
theorem le_grow' (γ : Gm) {W : Wd} {j : Nat} {mc : Int32} {q d c : Nat} {row : Nat → Option Nat} (hj : j < 9) (hv : W.2.1 j = (mc, q, d, c, row)) (hn : γ.1 + 92 ≤ W.2.2.2.2) (c' : Nat) (row' : Nat → Option Nat) : (rdw γ (wgrow W j c' row')).2 = (hset (hnew (rdw γ W) (rE γ 2 c' row')) (γ.1 + lA j) (.inr (0, [.int mc, .ref W.2.2.2.2, .int (nI q)]))).2 ∧ ∀ a x, (rdw γ (wgrow W j c' row')).1 a = some x → (hset (hnew (rdw γ W) (rE γ 2 c' row')) (γ.1 + lA j) (.inr (0, [.int mc, .ref W.2.2.2.2, .int (nI q)]))).1 a = some x := by
  have h9 := le_grow γ W (j := j) (c := c') hj hn row'
  rw [hv] at h9
  exact h9
theorem rl_new (γ : Gm) {W : Wd} {j : Nat} {mc : Int32} {q d c : Nat} {row : Nat → Option Nat} (hj : j < 9) (hv : W.2.1 j = (mc, q, d, c, row)) (hn : γ.1 + 92 ≤ W.2.2.2.2) (e : va_E) : (hnew (rdw γ W) e).1 (γ.1 + lA j) = some (.inr (0, [.int mc, .ref d, .int (nI q)])) := (hnew_off _ _ (by show γ.1 + lA j ≠ W.2.2.2.2; have := lA_lt hj; omega)).trans (rl_List γ hj hv)
theorem wg_v {W : Wd} {j : Nat} {mc : Int32} {q d c : Nat} {row : Nat → Option Nat} (hv : W.2.1 j = (mc, q, d, c, row)) (c' : Nat) (row' : Nat → Option Nat) : (wgrow W j c' row').2.1 j = (mc, q, W.2.2.2.2, c', row') := by
  show (if j = j then _ else _) = _
  rw [if_pos rfl, hv]
theorem wg_y (W : Wd) (j c' : Nat) (row' : Nat → Option Nat) : (wgrow W j c' row').2.2.1 W.2.2.2.2 = some (.inl j) := if_pos rfl
theorem wg_o {W : Wd} {j b : Nat} {o : Nat → Int32} (c' : Nat) (row' : Nat → Option Nat) (hb : b < W.2.2.2.2) (ho : W.2.2.1 b = some (.inr o)) : (wgrow W j c' row').2.2.1 b = some (.inr o) := by
  show (if b = W.2.2.2.2 then _ else W.2.2.1 b) = _
  rw [if_neg (by omega), ho]
def c_nul (row : Nat → Option Nat) (t : Nat) : Nat → Option Nat := fun i => if i < t then none else row i
theorem c_nul0 (row : Nat → Option Nat) : c_nul row 0 = row := rfl
theorem c_nulS (row : Nat → Option Nat) (t : Nat) : va_up (c_nul row t) t none = c_nul row (t + 1) := by
  funext i
  by_cases h : i = t
  · subst h; rw [va_up_self]; simp only [c_nul]; rw [if_pos (by omega)]
  · rw [va_up_ne _ _ h]; simp only [c_nul]
    by_cases h2 : i < t
    · rw [if_pos h2, if_pos (by omega)]
    · rw [if_neg h2, if_neg (by omega)]
def c_rem (row : Nat → Option Nat) (q i : Nat) : Nat → Option Nat := va_up (va_cpy row row (i + 1) i (q - 1 - i)) (q - 1) none
theorem c_rem0 (row : Nat → Option Nat) {q i : Nat} (h : q - 1 ≤ i) : va_up row (q - 1) none = c_rem row q i := by
  unfold c_rem
  rw [show q - 1 - i = 0 by omega]
  have e : va_cpy row row (i + 1) i 0 = row := by funext z; simp only [va_cpy]; rw [if_neg (by omega)]
  rw [e]
/-- the list's first q entries are orders -/
def LO (γ : Gm) (W : Wd) (row : Nat → Option Nat) (q : Nat) : Prop := ∀ t, t < q → ∃ (a : Nat) (o : Nat → Int32), row t = some a ∧ γ.1 + 92 ≤ a ∧ a < W.2.2.2.2 ∧ W.2.2.1 a = some (.inr o)
theorem LO_ok {γ : Gm} {W : Wd} {row : Nat → Option Nat} {q : Nat} {s : State} (h : LO γ W row q) (hc : va_Nw (.castable "BallastTrain$Order" "java/lang/Object") s) {t : Nat} (ht : t < q) : rowOK s (rdw γ W) "java/lang/Object" row t := by
  intro z hz
  obtain ⟨a, o, h1, h2, _, h3⟩ := h t ht
  rw [h1] at hz
  cases hz
  exact ⟨2, _, _, rd_Ord γ W h2 h3, rfl, hc⟩
theorem hset_hnew (h : HP) (e e2 : va_E) : hset (hnew h e) h.2 e2 = hnew h e2 := by
  refine Prod.ext (funext fun a => ?_) rfl
  by_cases ha : a = h.2
  · rw [ha, hset_at, hnew_at]
  · rw [hset_off _ _ ha, hnew_off _ _ ha, hnew_off _ _ ha]
theorem LO_okn {γ : Gm} {W : Wd} {row : Nat → Option Nat} {q : Nat} {s : State} {e : va_E} (h : LO γ W row q) (hc : va_Nw (.castable "BallastTrain$Order" "java/lang/Object") s) {t : Nat} (ht : t < q) : rowOK s (hnew (rdw γ W) e) "java/lang/Object" row t := by
  intro z hz
  obtain ⟨a, o, h1, h2, h4, h3⟩ := h t ht
  rw [h1] at hz
  cases hz
  exact ⟨2, _, _, (hnew_off _ _ (by show z ≠ W.2.2.2.2; omega)).trans (rd_Ord γ W h2 h3), rfl, hc⟩
theorem cx_Mi {p : Program} {s : State} {m : MethodId} {args : Array Value} {meth : Method} {c : Code} {γ : Gm} {y : MethodName} {cc : ByteArray} {nL : Nat} {ret : Option FieldType} (X : Cx p s m args meth c γ y cc nL ret) : va_Mi "[Ljava/lang/Object;" (γ.2.2.2 3) s := (cx_env X).2.2.2.2.2.2.2.1
def c_ten (row : Nat → Option Nat) : Nat → Option Nat := va_cpy row (fun _ => none) 0 0 10
