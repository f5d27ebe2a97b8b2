/-! more rows: constants as nI, sums of places, comparisons of places, truth values, calls that end in one way -/
def Det (r : Option Value) (h1 : HP) : Option Value → HP → Prop := fun v h' => v = r ∧ h' = h1
def bi (c : Prop) [Decidable c] : Int32 := if c then nI 1 else nI 0
theorem bi_t {c : Prop} [Decidable c] (h : c) : nI 1 = bi c := (if_pos h).symm
theorem bi_f {c : Prop} [Decidable c] (h : ¬ c) : nI 0 = bi c := (if_neg h).symm
theorem bi_nar {c : Prop} [Decidable c] : narrow .boolean (.int (bi c)) = .int (bi c) := by unfold bi; split <;> rfl
theorem bi_congr {c d : Prop} [Decidable c] [Decidable d] (h : c ↔ d) : bi c = bi d := by unfold bi; by_cases hc : c <;> simp [hc, h.symm, h.mp, show (d ↔ c) from h.symm]
theorem so_some {a b : Int32} (h : a = b) : (some (Value.int a)) = some (Value.int b) := by rw [h]
theorem nI_inc (a : Nat) : nI a + Int32.ofInt 1 = nI (a + 1) := nI_1 a
theorem nI_dec (a : Nat) : nI (a + 1) + Int32.ofInt (-1) = nI a := pk_m1 a
section VR2
variable {p : Program} {l : Launch} {e : Env} {R : Room} {s : State} {m : MethodId} {args : Array Value} {below : List Frame} {meth : Method} {c : Code} {γ : Gm} {Q : State → Prop} {y : MethodName} {cc : ByteArray} {nL : Nat} {ret : Option FieldType} {h : HP} {k j pc : Nat} {L : List (Option Value)} {st : List Value}
theorem v_iconst' (X : Cx p s m args meth c γ y cc nL ret) {n : Int} {v : Int32} (hv : Int32.ofInt n = v) (d : decode cc pc = .ok (.iconst n, 1)) (kk : V p l e R s m args below meth c γ Q h k j (pc + 1) L (.int v :: st)) : V p l e R s m args below meth c γ Q h k j pc L st := by subst hv; exact v_iconst X d kk
theorem v_bipush' (X : Cx p s m args meth c γ y cc nL ret) {n : Int} {v : Int32} (hv : (Int8.ofInt n).toInt32 = v) (d : decode cc pc = .ok (.bipush n, 2)) (kk : V p l e R s m args below meth c γ Q h k j (pc + 2) L (.int v :: st)) : V p l e R s m args below meth c γ Q h k j pc L st := by subst hv; exact v_bipush X d kk
theorem v_sipush' (X : Cx p s m args meth c γ y cc nL ret) {n : Int} {v : Int32} (hv : (Int16.ofInt n).toInt32 = v) (d : decode cc pc = .ok (.sipush n, 3)) (kk : V p l e R s m args below meth c γ Q h k j (pc + 3) L (.int v :: st)) : V p l e R s m args below meth c γ Q h k j pc L st := by subst hv; exact v_sipush X d kk
theorem v_iadd' (X : Cx p s m args meth c γ y cc nL ret) {x z v : Int32} (hv : x + z = v) (d : decode cc pc = .ok (.iadd, 1)) (kk : V p l e R s m args below meth c γ Q h k j (pc + 1) L (.int v :: st)) : V p l e R s m args below meth c γ Q h k j pc L (.int z :: .int x :: st) := by subst hv; exact v_iadd X d kk
theorem v_isub' (X : Cx p s m args meth c γ y cc nL ret) {x z v : Int32} (hv : x - z = v) (d : decode cc pc = .ok (.isub, 1)) (kk : V p l e R s m args below meth c γ Q h k j (pc + 1) L (.int v :: st)) : V p l e R s m args below meth c γ Q h k j pc L (.int z :: .int x :: st) := by subst hv; exact v_isub X d kk
theorem v_imul' (X : Cx p s m args meth c γ y cc nL ret) {x z v : Int32} (hv : x * z = v) (d : decode cc pc = .ok (.imul, 1)) (kk : V p l e R s m args below meth c γ Q h k j (pc + 1) L (.int v :: st)) : V p l e R s m args below meth c γ Q h k j pc L (.int z :: .int x :: st) := by subst hv; exact v_imul X d kk
theorem v_idiv' (X : Cx p s m args meth c γ y cc nL ret) {a b : Nat} (ha : a < 2 ^ 31) (h0 : 0 < b) (hb : b < 2 ^ 31) (d : decode cc pc = .ok (.idiv, 1)) (kk : V p l e R s m args below meth c γ Q h k j (pc + 1) L (.int (nI (a / b)) :: st)) : V p l e R s m args below meth c γ Q h k j pc L (.int (nI b) :: .int (nI a) :: st) := v_idiv X (nI_ne0 h0 hb) d (by rw [pk_div ha h0 hb]; exact kk)
theorem v_irem' (X : Cx p s m args meth c γ y cc nL ret) {a b : Nat} (ha : a < 2 ^ 31) (h0 : 0 < b) (hb : b < 2 ^ 31) (d : decode cc pc = .ok (.irem, 1)) (kk : V p l e R s m args below meth c γ Q h k j (pc + 1) L (.int (nI (a % b)) :: st)) : V p l e R s m args below meth c γ Q h k j pc L (.int (nI b) :: .int (nI a) :: st) := v_irem X (nI_ne0 h0 hb) d (by rw [pk_rem ha h0 hb]; exact kk)
theorem v_iinc' (X : Cx p s m args meth c γ y cc nL ret) {i : Nat} {n : Int} {x v : Int32} (hx : L[i]? = some (some (.int x))) (ho : lo_ok L i = true) (hv : x + Int32.ofInt n = v) (d : decode cc pc = .ok (.iinc i n, 3)) (kk : V p l e R s m args below meth c γ Q h k j (pc + 3) (L.set i (some (.int v))) st) : V p l e R s m args below meth c γ Q h k j pc L st := by subst hv; exact v_iinc X hx ho d kk
theorem v_iald' (X : Cx p s m args meth c γ y cc nL ret) {a n : Nat} {f : Nat → Int32} {x v : Int32} (hr : h.1 a = some (iE γ n f)) (i : Nat) (hx : x = nI i) (hi : i < n) (hn : n < 2 ^ 31) (hv : f i = v) (d : decode cc pc = .ok (.iaload, 1)) (kk : V p l e R s m args below meth c γ Q h k j (pc + 1) L (.int v :: st)) : V p l e R s m args below meth c γ Q h k j pc L (.int x :: .ref a :: st) := by subst hv; exact v_iald X hr i hx hi hn d kk
theorem v_icmp_eq_n (X : Cx p s m args meth c γ y cc nL ret) {a b : Nat} {off : Int} {tgt : Nat} (d : decode cc pc = .ok (.if_icmp .eq off, 3)) (ht : (pc : Int) + off = (tgt : Int)) (ha : a < 2 ^ 31) (hb : b < 2 ^ 31) (kt : a = b → V p l e R s m args below meth c γ Q h k j tgt L st) (kf : ¬ a = b → V p l e R s m args below meth c γ Q h k j (pc + 3) L st) : V p l e R s m args below meth c γ Q h k j pc L (.int (nI b) :: .int (nI a) :: st) := v_icmp_eq X d ht (fun q => kt ((nI_eq ha hb).mp q)) (fun q => kf (fun z => q ((nI_eq ha hb).mpr z)))
theorem v_icmp_ne_n (X : Cx p s m args meth c γ y cc nL ret) {a b : Nat} {off : Int} {tgt : Nat} (d : decode cc pc = .ok (.if_icmp .ne off, 3)) (ht : (pc : Int) + off = (tgt : Int)) (ha : a < 2 ^ 31) (hb : b < 2 ^ 31) (kt : ¬ a = b → V p l e R s m args below meth c γ Q h k j tgt L st) (kf : a = b → V p l e R s m args below meth c γ Q h k j (pc + 3) L st) : V p l e R s m args below meth c γ Q h k j pc L (.int (nI b) :: .int (nI a) :: st) := v_icmp_ne X d ht (fun q => kt (fun z => q ((nI_eq ha hb).mpr z))) (fun q => kf ((nI_eq ha hb).mp q))
theorem v_icmp_lt_n (X : Cx p s m args meth c γ y cc nL ret) {a b : Nat} {off : Int} {tgt : Nat} (d : decode cc pc = .ok (.if_icmp .lt off, 3)) (ht : (pc : Int) + off = (tgt : Int)) (ha : a < 2 ^ 31) (hb : b < 2 ^ 31) (kt : a < b → V p l e R s m args below meth c γ Q h k j tgt L st) (kf : b ≤ a → V p l e R s m args below meth c γ Q h k j (pc + 3) L st) : V p l e R s m args below meth c γ Q h k j pc L (.int (nI b) :: .int (nI a) :: st) := v_icmp_lt X d ht (fun q => kt ((nI_ltI ha hb).mp q)) (fun q => kf (Nat.not_lt.mp (fun z => q ((nI_ltI ha hb).mpr z))))
theorem v_icmp_ge_n (X : Cx p s m args meth c γ y cc nL ret) {a b : Nat} {off : Int} {tgt : Nat} (d : decode cc pc = .ok (.if_icmp .ge off, 3)) (ht : (pc : Int) + off = (tgt : Int)) (ha : a < 2 ^ 31) (hb : b < 2 ^ 31) (kt : b ≤ a → V p l e R s m args below meth c γ Q h k j tgt L st) (kf : a < b → V p l e R s m args below meth c γ Q h k j (pc + 3) L st) : V p l e R s m args below meth c γ Q h k j pc L (.int (nI b) :: .int (nI a) :: st) := v_icmp_ge X d ht (fun q => kt ((nI_leI hb ha).mp q)) (fun q => kf (Nat.not_le.mp (fun z => q ((nI_leI hb ha).mpr z))))
theorem v_icmp_gt_n (X : Cx p s m args meth c γ y cc nL ret) {a b : Nat} {off : Int} {tgt : Nat} (d : decode cc pc = .ok (.if_icmp .gt off, 3)) (ht : (pc : Int) + off = (tgt : Int)) (ha : a < 2 ^ 31) (hb : b < 2 ^ 31) (kt : b < a → V p l e R s m args below meth c γ Q h k j tgt L st) (kf : a ≤ b → V p l e R s m args below meth c γ Q h k j (pc + 3) L st) : V p l e R s m args below meth c γ Q h k j pc L (.int (nI b) :: .int (nI a) :: st) := v_icmp_gt X d ht (fun q => kt ((nI_ltI hb ha).mp q)) (fun q => kf (Nat.not_lt.mp (fun z => q ((nI_ltI hb ha).mpr z))))
theorem v_icmp_le_n (X : Cx p s m args meth c γ y cc nL ret) {a b : Nat} {off : Int} {tgt : Nat} (d : decode cc pc = .ok (.if_icmp .le off, 3)) (ht : (pc : Int) + off = (tgt : Int)) (ha : a < 2 ^ 31) (hb : b < 2 ^ 31) (kt : a ≤ b → V p l e R s m args below meth c γ Q h k j tgt L st) (kf : b < a → V p l e R s m args below meth c γ Q h k j (pc + 3) L st) : V p l e R s m args below meth c γ Q h k j pc L (.int (nI b) :: .int (nI a) :: st) := v_icmp_le X d ht (fun q => kt ((nI_leI ha hb).mp q)) (fun q => kf (Nat.not_le.mp (fun z => q ((nI_leI ha hb).mpr z))))
theorem v_if_eq_n (X : Cx p s m args meth c γ y cc nL ret) {a : Nat} {off : Int} {tgt : Nat} (d : decode cc pc = .ok (.ifCond .eq off, 3)) (ht : (pc : Int) + off = (tgt : Int)) (ha : a < 2 ^ 31) (kt : a = 0 → V p l e R s m args below meth c γ Q h k j tgt L st) (kf : ¬ a = 0 → V p l e R s m args below meth c γ Q h k j (pc + 3) L st) : V p l e R s m args below meth c γ Q h k j pc L (.int (nI a) :: st) := v_if_eq X d ht (fun q => kt ((nI_eq ha (by decide)).mp (q.trans nI_0.symm))) (fun q => kf (fun z => q (by rw [z]; exact nI_0)))
theorem v_if_ne_n (X : Cx p s m args meth c γ y cc nL ret) {a : Nat} {off : Int} {tgt : Nat} (d : decode cc pc = .ok (.ifCond .ne off, 3)) (ht : (pc : Int) + off = (tgt : Int)) (ha : a < 2 ^ 31) (kt : ¬ a = 0 → V p l e R s m args below meth c γ Q h k j tgt L st) (kf : a = 0 → V p l e R s m args below meth c γ Q h k j (pc + 3) L st) : V p l e R s m args below meth c γ Q h k j pc L (.int (nI a) :: st) := v_if_ne X d ht (fun q => kt (fun z => q (by rw [z]; exact nI_0))) (fun q => kf ((nI_eq ha (by decide)).mp (q.trans nI_0.symm)))
theorem v_if_gt_n (X : Cx p s m args meth c γ y cc nL ret) {a : Nat} {off : Int} {tgt : Nat} (d : decode cc pc = .ok (.ifCond .gt off, 3)) (ht : (pc : Int) + off = (tgt : Int)) (ha : a < 2 ^ 31) (kt : 0 < a → V p l e R s m args below meth c γ Q h k j tgt L st) (kf : a = 0 → V p l e R s m args below meth c γ Q h k j (pc + 3) L st) : V p l e R s m args below meth c γ Q h k j pc L (.int (nI a) :: st) := v_if_gt X d ht (fun q => kt ((nI_ltI (by decide) ha).mp (by rw [nI_0]; exact q))) (fun q => kf (Nat.eq_zero_of_not_pos (fun z => q (by rw [← nI_0]; exact (nI_ltI (by decide) ha).mpr z))))
theorem v_if_le_n (X : Cx p s m args meth c γ y cc nL ret) {a : Nat} {off : Int} {tgt : Nat} (d : decode cc pc = .ok (.ifCond .le off, 3)) (ht : (pc : Int) + off = (tgt : Int)) (ha : a < 2 ^ 31) (kt : a = 0 → V p l e R s m args below meth c γ Q h k j tgt L st) (kf : 0 < a → V p l e R s m args below meth c γ Q h k j (pc + 3) L st) : V p l e R s m args below meth c γ Q h k j pc L (.int (nI a) :: st) := v_if_le X d ht (fun q => kt (Nat.le_zero.mp ((nI_leI ha (by decide)).mp (by rw [nI_0]; exact q)))) (fun q => kf (Nat.pos_of_ne_zero (fun z => q (by rw [z, nI_0]; exact Int32.le_refl _))))
theorem v_if_lt_n (X : Cx p s m args meth c γ y cc nL ret) {a : Nat} {off : Int} (d : decode cc pc = .ok (.ifCond .lt off, 3)) {tgt : Nat} (ht : (pc : Int) + off = (tgt : Int)) (ha : a < 2 ^ 31) (kf : V p l e R s m args below meth c γ Q h k j (pc + 3) L st) : V p l e R s m args below meth c γ Q h k j pc L (.int (nI a) :: st) := v_if_lt_f X d ht (nI_pos ha) kf
theorem v_if_ge_n (X : Cx p s m args meth c γ y cc nL ret) {a : Nat} {off : Int} (d : decode cc pc = .ok (.ifCond .ge off, 3)) {tgt : Nat} (ht : (pc : Int) + off = (tgt : Int)) (ha : a < 2 ^ 31) (kt : V p l e R s m args below meth c γ Q h k j tgt L st) : V p l e R s m args below meth c γ Q h k j pc L (.int (nI a) :: st) := v_if_ge_t X d ht (nI_pos' ha) kt
theorem bi_0 {q : Prop} [Decidable q] (h : bi q = 0) : ¬ q := fun z => by rw [← bi_t z] at h; exact absurd h (by decide)
theorem bi_n0 {q : Prop} [Decidable q] (h : ¬ bi q = 0) : q := Decidable.byContradiction fun z => h (by rw [← bi_f z]; rfl)
theorem v_if_eq_b (X : Cx p s m args meth c γ y cc nL ret) {q : Prop} [Decidable q] {off : Int} {tgt : Nat} (d : decode cc pc = .ok (.ifCond .eq off, 3)) (ht : (pc : Int) + off = (tgt : Int)) (kt : ¬ q → V p l e R s m args below meth c γ Q h k j tgt L st) (kf : q → V p l e R s m args below meth c γ Q h k j (pc + 3) L st) : V p l e R s m args below meth c γ Q h k j pc L (.int (bi q) :: st) := v_if_eq X d ht (fun z => kt (bi_0 z)) (fun z => kf (bi_n0 z))
theorem v_if_ne_b (X : Cx p s m args meth c γ y cc nL ret) {q : Prop} [Decidable q] {off : Int} {tgt : Nat} (d : decode cc pc = .ok (.ifCond .ne off, 3)) (ht : (pc : Int) + off = (tgt : Int)) (kt : q → V p l e R s m args below meth c γ Q h k j tgt L st) (kf : ¬ q → V p l e R s m args below meth c γ Q h k j (pc + 3) L st) : V p l e R s m args below meth c γ Q h k j pc L (.int (bi q) :: st) := v_if_ne X d ht (fun z => kt (bi_n0 z)) (fun z => kf (bi_0 z))
theorem det_i {x : Int32} {h1 : HP} (kk : V p l e R s m args below meth c γ Q h1 k j pc L (.int x :: st)) : ∀ (v : Option Value) (h' : HP), Det (some (.int x)) h1 v h' → V p l e R s m args below meth c γ Q h' k j pc L (v.toList ++ st) := by rintro v h' ⟨rfl, rfl⟩; exact kk
theorem det_l {x : Int64} {h1 : HP} (kk : V p l e R s m args below meth c γ Q h1 k j pc L (.long x :: st)) : ∀ (v : Option Value) (h' : HP), Det (some (.long x)) h1 v h' → V p l e R s m args below meth c γ Q h' k j pc L (v.toList ++ st) := by rintro v h' ⟨rfl, rfl⟩; exact kk
theorem det_r {x : Nat} {h1 : HP} (kk : V p l e R s m args below meth c γ Q h1 k j pc L (.ref x :: st)) : ∀ (v : Option Value) (h' : HP), Det (some (.ref x)) h1 v h' → V p l e R s m args below meth c γ Q h' k j pc L (v.toList ++ st) := by rintro v h' ⟨rfl, rfl⟩; exact kk
theorem det_v  {h1 : HP} (kk : V p l e R s m args below meth c γ Q h1 k j pc L (st)) : ∀ (v : Option Value) (h' : HP), Det (none) h1 v h' → V p l e R s m args below meth c γ Q h' k j pc L (v.toList ++ st) := by rintro v h' ⟨rfl, rfl⟩; exact kk
theorem uq_Bytes (γ : Gm) (W : Wd) {i : Nat} (hi : i < 60) (x : Int32) : hset (rdw γ W) (γ.1 + 2) (iE γ 60 (upd (vw 60 f_hts (W.1 8)) i x)) = rdw γ (wset W 8 (upd (W.1 8) i x)) := by
  have h9 := up_Bytes γ W (W.1 8) hi x
  rw [wset_self] at h9
  exact h9
theorem uq_tlen (γ : Gm) (W : Wd) (x : Int32) : hset (rdw γ W) (γ.1 + 1) (.inr (3, [.ref (γ.1 + 2), .int x, .ref (γ.1 + 3), .int (W.1 8 61), .int (W.1 8 62)])) = rdw γ (wset W 8 (upd (W.1 8) 60 x)) := by
  have h9 := up_tlen γ W (W.1 8) x
  rw [wset_self] at h9
  exact h9
theorem uq_tfault (γ : Gm) (W : Wd) (x : Int32) : hset (rdw γ W) (γ.1 + 1) (.inr (3, [.ref (γ.1 + 2), .int (W.1 8 60), .ref (γ.1 + 3), .int x, .int (W.1 8 62)])) = rdw γ (wset W 8 (upd (W.1 8) 61 x)) := by
  have h9 := up_tfault γ W (W.1 8) x
  rw [wset_self] at h9
  exact h9
theorem uq_tat (γ : Gm) (W : Wd) (x : Int32) : hset (rdw γ W) (γ.1 + 1) (.inr (3, [.ref (γ.1 + 2), .int (W.1 8 60), .ref (γ.1 + 3), .int (W.1 8 61), .int x])) = rdw γ (wset W 8 (upd (W.1 8) 62 x)) := by
  have h9 := up_tat γ W (W.1 8) x
  rw [wset_self] at h9
  exact h9
theorem uq_next (γ : Gm) (W : Wd) (x : Int32) : hset (rdw γ W) (γ.1 + 24) (.inr (1, [.ref (γ.1 + 25), .int x, .int (W.1 9 1)])) = rdw γ (wset W 9 (upd (W.1 9) 0 x)) := by
  have h9 := up_next γ W (W.1 9) x
  rw [wset_self] at h9
  exact h9
theorem uq_size (γ : Gm) (W : Wd) (x : Int32) : hset (rdw γ W) (γ.1 + 24) (.inr (1, [.ref (γ.1 + 25), .int (W.1 9 0), .int x])) = rdw γ (wset W 9 (upd (W.1 9) 1 x)) := by
  have h9 := up_size γ W (W.1 9) x
  rw [wset_self] at h9
  exact h9
def lle : List (Option Value) → List (Option Value) → Prop
  | [], [] => True
  | a :: l, b :: r => (a = none ∨ a = b) ∧ lle l r
  | _, _ => False
theorem lle_len : ∀ (a b : List (Option Value)), lle a b → a.length = b.length
  | [], [], _ => rfl
  | _ :: l, _ :: r, h => by simp only [List.length_cons]; rw [lle_len l r h.2]
  | [], _ :: _, h => absurd h (fun z => z)
  | _ :: _, [], h => absurd h (fun z => z)
theorem lle_at : ∀ (a b : List (Option Value)), lle a b → ∀ (i : Nat) (v : Value), a[i]? = some (some v) → b[i]? = some (some v)
  | [], [], _, i, v, h => h
  | x :: l, z :: r, q, 0, v, h => by
    rw [List.getElem?_cons_zero] at h ⊢
    rcases q.1 with e | e
    · rw [e] at h; cases h
    · rw [← e]; exact h
  | _ :: l, _ :: r, q, i + 1, v, h => by
    rw [List.getElem?_cons_succ] at h ⊢
    exact lle_at l r q.2 i v h
  | [], _ :: _, h, _, _, _ => absurd h (fun z => z)
  | _ :: _, [], h, _, _, _ => absurd h (fun z => z)
theorem v_Ln {L' : List (Option Value)} (kk : V p l e R s m args below meth c γ Q h k j pc L' st) (q : lle L' L) : V p l e R s m args below meth c γ Q h k j pc L st := v_L (lle_len _ _ q) (lle_at _ _ q) kk
theorem wh_ws (W : Wd) (b : Nat) (g : Nat → Int32) : (wset W b g).2 = W.2 := rfl
end VR2
theorem kb_6 : (Int8.ofInt (6)).toInt32 = nI 6 := by decide
theorem kb_7 : (Int8.ofInt (7)).toInt32 = nI 7 := by decide
theorem kb_8 : (Int8.ofInt (8)).toInt32 = nI 8 := by decide
theorem kb_9 : (Int8.ofInt (9)).toInt32 = nI 9 := by decide
theorem kb_10 : (Int8.ofInt (10)).toInt32 = nI 10 := by decide
theorem kb_12 : (Int8.ofInt (12)).toInt32 = nI 12 := by decide
theorem kb_14 : (Int8.ofInt (14)).toInt32 = nI 14 := by decide
theorem kb_16 : (Int8.ofInt (16)).toInt32 = nI 16 := by decide
theorem kb_17 : (Int8.ofInt (17)).toInt32 = nI 17 := by decide
theorem kb_18 : (Int8.ofInt (18)).toInt32 = nI 18 := by decide
theorem kb_19 : (Int8.ofInt (19)).toInt32 = nI 19 := by decide
theorem kb_20 : (Int8.ofInt (20)).toInt32 = nI 20 := by decide
theorem kb_31 : (Int8.ofInt (31)).toInt32 = nI 31 := by decide
theorem kb_32 : (Int8.ofInt (32)).toInt32 = nI 32 := by decide
theorem kb_39 : (Int8.ofInt (39)).toInt32 = nI 39 := by decide
theorem kb_40 : (Int8.ofInt (40)).toInt32 = nI 40 := by decide
theorem kb_48 : (Int8.ofInt (48)).toInt32 = nI 48 := by decide
theorem kb_57 : (Int8.ofInt (57)).toInt32 = nI 57 := by decide
theorem kb_59 : (Int8.ofInt (59)).toInt32 = nI 59 := by decide
theorem kb_60 : (Int8.ofInt (60)).toInt32 = nI 60 := by decide
theorem kb_64 : (Int8.ofInt (64)).toInt32 = nI 64 := by decide
theorem kb_80 : (Int8.ofInt (80)).toInt32 = nI 80 := by decide
theorem kb_99 : (Int8.ofInt (99)).toInt32 = nI 99 := by decide
theorem kb_100 : (Int8.ofInt (100)).toInt32 = nI 100 := by decide
theorem kb_108 : (Int8.ofInt (108)).toInt32 = nI 108 := by decide
theorem kb_109 : (Int8.ofInt (109)).toInt32 = nI 109 := by decide
theorem kb_111 : (Int8.ofInt (111)).toInt32 = nI 111 := by decide
theorem kb_114 : (Int8.ofInt (114)).toInt32 = nI 114 := by decide
theorem kb_117 : (Int8.ofInt (117)).toInt32 = nI 117 := by decide
theorem kb_118 : (Int8.ofInt (118)).toInt32 = nI 118 := by decide
theorem kb_120 : (Int8.ofInt (120)).toInt32 = nI 120 := by decide
theorem kb_127 : (Int8.ofInt (127)).toInt32 = nI 127 := by decide
theorem kc_m1 : Int32.ofInt (-1) = (-1) := by decide
theorem kc_0 : Int32.ofInt (0) = nI 0 := by decide
theorem kc_1 : Int32.ofInt (1) = nI 1 := by decide
theorem kc_2 : Int32.ofInt (2) = nI 2 := by decide
theorem kc_3 : Int32.ofInt (3) = nI 3 := by decide
theorem kc_4 : Int32.ofInt (4) = nI 4 := by decide
theorem kc_5 : Int32.ofInt (5) = nI 5 := by decide
theorem ks_m1004 : (Int16.ofInt (-1004)).toInt32 = (-1004) := by decide
theorem ks_m1003 : (Int16.ofInt (-1003)).toInt32 = (-1003) := by decide
theorem ks_m1002 : (Int16.ofInt (-1002)).toInt32 = (-1002) := by decide
theorem ks_m1001 : (Int16.ofInt (-1001)).toInt32 = (-1001) := by decide
theorem ks_168 : (Int16.ofInt (168)).toInt32 = nI 168 := by decide
theorem ks_200 : (Int16.ofInt (200)).toInt32 = nI 200 := by decide
theorem ks_218 : (Int16.ofInt (218)).toInt32 = nI 218 := by decide
theorem ks_219 : (Int16.ofInt (219)).toInt32 = nI 219 := by decide
theorem ks_220 : (Int16.ofInt (220)).toInt32 = nI 220 := by decide
theorem ks_221 : (Int16.ofInt (221)).toInt32 = nI 221 := by decide
theorem ks_222 : (Int16.ofInt (222)).toInt32 = nI 222 := by decide
theorem ks_223 : (Int16.ofInt (223)).toInt32 = nI 223 := by decide
theorem ks_224 : (Int16.ofInt (224)).toInt32 = nI 224 := by decide
theorem ks_225 : (Int16.ofInt (225)).toInt32 = nI 225 := by decide
theorem ks_226 : (Int16.ofInt (226)).toInt32 = nI 226 := by decide
theorem ks_227 : (Int16.ofInt (227)).toInt32 = nI 227 := by decide
theorem ks_228 : (Int16.ofInt (228)).toInt32 = nI 228 := by decide
theorem ks_229 : (Int16.ofInt (229)).toInt32 = nI 229 := by decide
theorem ks_230 : (Int16.ofInt (230)).toInt32 = nI 230 := by decide
theorem ks_231 : (Int16.ofInt (231)).toInt32 = nI 231 := by decide
theorem ks_232 : (Int16.ofInt (232)).toInt32 = nI 232 := by decide
theorem ks_233 : (Int16.ofInt (233)).toInt32 = nI 233 := by decide
theorem ks_255 : (Int16.ofInt (255)).toInt32 = nI 255 := by decide
theorem ks_400 : (Int16.ofInt (400)).toInt32 = nI 400 := by decide
theorem ks_1023 : (Int16.ofInt (1023)).toInt32 = nI 1023 := by decide
theorem ks_1165 : (Int16.ofInt (1165)).toInt32 = nI 1165 := by decide
theorem ks_1398 : (Int16.ofInt (1398)).toInt32 = nI 1398 := by decide
theorem ks_9999 : (Int16.ofInt (9999)).toInt32 = nI 9999 := by decide
theorem kb_11 : (Int8.ofInt (11)).toInt32 = nI 11 := by decide
theorem kb_13 : (Int8.ofInt (13)).toInt32 = nI 13 := by decide
theorem kb_15 : (Int8.ofInt (15)).toInt32 = nI 15 := by decide
theorem kb_24 : (Int8.ofInt (24)).toInt32 = nI 24 := by decide
theorem kb_30 : (Int8.ofInt (30)).toInt32 = nI 30 := by decide
theorem kb_49 : (Int8.ofInt (49)).toInt32 = nI 49 := by decide
theorem kb_50 : (Int8.ofInt (50)).toInt32 = nI 50 := by decide
theorem kb_51 : (Int8.ofInt (51)).toInt32 = nI 51 := by decide
theorem kb_52 : (Int8.ofInt (52)).toInt32 = nI 52 := by decide
theorem kb_53 : (Int8.ofInt (53)).toInt32 = nI 53 := by decide
theorem kb_54 : (Int8.ofInt (54)).toInt32 = nI 54 := by decide
theorem kb_55 : (Int8.ofInt (55)).toInt32 = nI 55 := by decide
theorem kb_56 : (Int8.ofInt (56)).toInt32 = nI 56 := by decide
theorem kb_58 : (Int8.ofInt (58)).toInt32 = nI 58 := by decide
theorem kb_61 : (Int8.ofInt (61)).toInt32 = nI 61 := by decide
theorem kb_62 : (Int8.ofInt (62)).toInt32 = nI 62 := by decide
theorem kb_90 : (Int8.ofInt (90)).toInt32 = nI 90 := by decide
theorem ks_150 : (Int16.ofInt (150)).toInt32 = nI 150 := by decide
theorem ks_201 : (Int16.ofInt (201)).toInt32 = nI 201 := by decide
theorem ks_1000 : (Int16.ofInt (1000)).toInt32 = nI 1000 := by decide

theorem uq_W (γ : Gm) (W : Wd) {i : Nat} (hi : i < 62) (x : Int32) : hset (rdw γ W) (γ.1 + 87) (iE γ 64 (upd (vw 62 f_w (W.1 10)) i x)) = rdw γ (wset W 10 (upd (W.1 10) (f_w i) x)) := by
  have h9 := up_W γ W (W.1 10) hi x
  rw [wset_self] at h9
  exact h9
