theorem cx_env {p : Program} {s : State} {m : MethodId} {args : Array Value} {meth : Method} {c : Code} {γ : Gm} {y : MethodName} {cc : ByteArray} {nL : Nat} {ret : Option FieldType} (X : Cx p s m args meth c γ y cc nL ret) : EnvG γ s := X.2.2.2.2.2.2.2.1
theorem rl_List (γ : Gm) {W : Wd} {j : Nat} {mc : Int32} {q d c : Nat} {row : Nat → Option Nat} (hj : j < 9) (hv : W.2.1 j = (mc, q, d, c, row)) : (rdw γ W).1 (γ.1 + lA j) = some (.inr (0, [.int mc, .ref d, .int (nI q)])) := by rw [rd_List γ W hj, hv]; rfl
theorem rl_Row (γ : Gm) {W : Wd} {j : Nat} {mc : Int32} {q d c : Nat} {row : Nat → Option Nat} (hv : W.2.1 j = (mc, q, d, c, row)) (hd : γ.1 + 92 ≤ d) (hy : W.2.2.1 d = some (.inl j)) : (rdw γ W).1 d = some (rE γ 2 c row) := by
  rw [rdw_hi γ W hd, dyn_inl γ W hy, hv, if_pos rfl]
theorem cx_cast {p : Program} {s : State} {m : MethodId} {args : Array Value} {meth : Method} {c : Code} {γ : Gm} {y : MethodName} {cc : ByteArray} {nL : Nat} {ret : Option FieldType} (X : Cx p s m args meth c γ y cc nL ret) : va_Nw (.castable "BallastTrain$Order" "java/lang/Object") s := (cx_env X).2.2.2.2.2.2.2.2.2
theorem up_lrow' (γ : Gm) {W : Wd} {j : Nat} {mc : Int32} {q d c : Nat} {row : Nat → Option Nat} (hj : j < 9) (hv : W.2.1 j = (mc, q, d, c, row)) (hd : γ.1 + 92 ≤ d) (hy : W.2.2.1 d = some (.inl j)) (row' : Nat → Option Nat) : hset (rdw γ W) d (rE γ 2 c row') = rdw γ (wl W j (mc, q, d, c, row')) := by
  have h9 := up_lrow γ W hj (by rw [hv]; exact hd) (by rw [hv]; exact hy) row'
  rw [hv] at h9
  exact h9
theorem up_l' (γ : Gm) {W : Wd} {j : Nat} {mc : Int32} {q d c : Nat} {row : Nat → Option Nat} (hj : j < 9) (hv : W.2.1 j = (mc, q, d, c, row)) (mc' : Int32) (q' : Nat) : hset (rdw γ W) (γ.1 + lA j) (.inr (0, [.int mc', .ref d, .int (nI q')])) = rdw γ (wl W j (mc', q', d, c, row)) := up_l γ W hj (mc', q', d, c, row) (by rw [hv])
