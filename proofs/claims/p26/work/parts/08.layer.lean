def tb : List Cond := lw_tbl.filter goodWord
theorem tb_lw {w : Cond} (h : w ∈ tb) : w ∈ lw_tbl := (List.mem_filter.mp h).1
theorem tb_mem {w : Cond} (i : Nat) (h : lw_tbl[i]? = some w) (g : goodWord w = true) : w ∈ tb := List.mem_filter.mpr ⟨List.mem_of_getElem? h, g⟩
theorem tb_good {w : Cond} (h : w ∈ tb) : w ∈ tb ∧ ((w.onTables && w.keeps) = true ∨ ∃ ty, w = .arrayClass ty) := ⟨h, good_of_word (List.mem_filter.mp h).2⟩
theorem tb_cons {w : Cond} (h : w ∈ tb) : GoodIn tb (w :: tb) := fun x hx => (List.mem_cons.mp hx).elim (fun e => by rw [e]; exact tb_good h) tb_good
/-! the picture of a heap: what stands at each address, and how many cells there are -/
abbrev HP : Type := (Nat → Option va_E) × Nat
/-- the run's own constants: the first address of what the law makes; the tables' numbers; the numbers of the array kinds (0 int, 1 State, 2 Object); addresses of what stood there before -/
abbrev Gm : Type := Nat × va_G × (Nat → ClassId) × (Nat → Nat)
def Ag (γ : Gm) : Nat → Prop := fun q => γ.1 ≤ q
def hset (h : HP) (a : Nat) (e : va_E) : HP := (va_up h.1 a (some e), h.2)
def hnew (h : HP) (e : va_E) : HP := (va_up h.1 h.2 (some e), h.2 + 1)
def hOK (γ : Gm) (h : HP) (H : Heap) : Prop := H.size = h.2 ∧ γ.1 ≤ h.2 ∧ ∀ (a : Nat) (e : va_E), h.1 a = some e → va_at γ.2.1 vwCl (a, e) H ∧ γ.1 ≤ a
def tyl (γ : Gm) : List (ClassId × FieldType) := [(γ.2.2.1 0, .int), (γ.2.2.1 1, .object "BallastTrain$State"), (γ.2.2.1 2, .object "java/lang/Object")]
def lstS (j : Nat) : Int32 := [1, 1, 0, 0, 0].getD j 0
def mstS (j : Nat) : Int32 := [20, 60, 9, 200, 60].getD j 0
/-- what stood in the heap before, and stays -/
def Cst (γ : Gm) (U : State) (H : Heap) : Prop :=
  (va_Z "BallastTrain" "LEAST_SETTING" "[I" (.ref (γ.2.2.2 0)) (Ag γ) U H ∧ va_T .int (γ.2.2.2 0) 5 (fun j => .int (lstS j)) (Ag γ) U H) ∧
  (va_Z "BallastTrain" "MOST_SETTING" "[I" (.ref (γ.2.2.2 1)) (Ag γ) U H ∧ va_T .int (γ.2.2.2 1) 5 (fun j => .int (mstS j)) (Ag γ) U H) ∧
  (va_Z "java/util/ArrayList" "DEFAULTCAPACITY_EMPTY_ELEMENTDATA" "[Ljava/lang/Object;" (.ref (γ.2.2.2 2)) (Ag γ) U H ∧ va_T (.object "java/lang/Object") (γ.2.2.2 2) 0 (fun _ => .null) (Ag γ) U H) ∧
  ∃ xs : Nat → Int32, va_T .int (γ.2.2.2 5) (γ.2.2.2 6) (fun j => .int (xs j)) (Ag γ) U H
theorem Cst.moved {γ : Gm} {u U : State} {H : Heap} (hvm : u.vm.Alike U.vm) (h : Cst γ u H) : Cst γ U H :=
  ⟨⟨va_Z.moved hvm h.1.1, va_T.moved hvm h.1.2⟩, ⟨va_Z.moved hvm h.2.1.1, va_T.moved hvm h.2.1.2⟩, ⟨va_Z.moved hvm h.2.2.1.1, va_T.moved hvm h.2.2.1.2⟩, h.2.2.2.choose, va_T.moved hvm h.2.2.2.choose_spec⟩
theorem Cst.kept {γ : Gm} {U : State} {H H1 : Heap} (h : Cst γ U H) (hq : ∀ a : Nat, a < H.size → ¬ Ag γ a → H1[a]? = H[a]?) : Cst γ U H1 :=
  ⟨⟨h.1.1.kept hq, h.1.2.kept hq⟩, ⟨h.2.1.1.kept hq, h.2.1.2.kept hq⟩, ⟨h.2.2.1.1.kept hq, h.2.2.1.2.kept hq⟩, h.2.2.2.choose, h.2.2.2.choose_spec.kept hq⟩
/-- what the tables say beside their words: constants of text, class objects, nest mates, arrays of references, casts -/
def yGC : MethodName := ⟨"java/lang/Object", "getClass", "()Ljava/lang/Class;"⟩
def nests : List (String × Nat × MethodName) := [("BallastTrain", 9, ⟨"BallastTrain$Text", "<init>", "()V"⟩), ("BallastTrain", 18, ⟨"BallastTrain$State", "<init>", "()V"⟩), ("BallastTrain$State", 17, ⟨"BallastTrain$Track", "<init>", "()V"⟩), ("BallastTrain$History", 24, ⟨"BallastTrain$State", "<init>", "()V"⟩), ("BallastTrain$State", 52, ⟨"BallastTrain", "copyRow", "([I[I)V"⟩), ("BallastTrain$Train", 43, ⟨"BallastTrain", "copyRow", "([I[I)V"⟩), ("BallastTrain$State", 66, ⟨"BallastTrain", "addAll", "(Ljava/util/ArrayList;Ljava/util/ArrayList;)V"⟩), ("BallastTrain$Train", 51, ⟨"BallastTrain", "sum", "([I)I"⟩), ("BallastTrain$Track", 19, ⟨"BallastTrain", "sum", "([I)I"⟩)]
def Wm (γ : Gm) (U : State) : Prop :=
  γ.2.2.2 6 ≤ 260 ∧ (∀ q ∈ nests, va_Nw (.methodLinkNest q.1 q.2.1 q.2.2 "BallastTrain") U) ∧ va_AO "BallastTrain$State" U ∧ va_AO "java/lang/Object" U
theorem Wm.warm {γ : Gm} {s U : State} (hW : s.WarmedH U.vm) (h : Wm γ s) : Wm γ U :=
  ⟨h.1, fun q hq => va_Nw.warmM hW (h.2.1 q hq), h.2.2.1.moved hW.alike, h.2.2.2.moved hW.alike⟩
theorem Wm.same {γ : Gm} {s U : State} (hv : U.vm = s.vm) (h : Wm γ s) : Wm γ U :=
  ⟨h.1, fun q hq => va_Nw.same rfl hv.symm (h.2.1 q hq), h.2.2.1.moved (hv ▸ Vm.Alike.refl _), h.2.2.2.moved (hv ▸ Vm.Alike.refl _)⟩
def EnvG (γ : Gm) (U : State) : Prop := va_K γ.2.1 vwCl (tyl γ) U ∧ γ.1 ≤ U.heap.size ∧ Cst γ U U.heap ∧ Wm γ U
theorem EnvG.at {γ : Gm} {s U : State} {H : Heap} {locs : List Loc} (h : EnvG γ s) (hS : va_S (Ag γ) s.heap H locs) (hU : U.heap = H) (hW : s.WarmedH U.vm) : EnvG γ U :=
  ⟨va_K.moved hW.alike h.1, by rw [hU]; exact Nat.le_trans h.2.1 hS.1, by rw [hU]; exact Cst.moved hW.alike (h.2.2.1.kept hS.2.1), h.2.2.2.warm hW⟩
theorem EnvG.blind {γ : Gm} (a : Array Value) (U : State) (g : JFrame) (mk : MethodId) (h : EnvG γ U) : EnvG γ (U.calling g mk a) :=
  ⟨va_K.moved (u := U) (U := U.calling g mk a) (Vm.Alike.refl U.vm) h.1, h.2.1, Cst.moved (u := U) (U := U.calling g mk a) (Vm.Alike.refl U.vm) h.2.2.1, Wm.same (s := U) (U := U.calling g mk a) rfl h.2.2.2⟩
/-! the local variables: a value at each place that is known -/
def lo (ls : Array Slot) (L : List (Option Value)) : Prop := ls.size = L.length ∧ lv_wf ls ∧ ∀ (i : Nat) (v : Value), L[i]? = some (some v) → ls[i]? = some (.val v)
def prs (L : List (Option Value)) : List (Nat × Value) := (List.range L.length).filterMap (fun i => (L.getD i none).map (fun v => (i, v)))
theorem prs_mem {L : List (Option Value)} {i : Nat} {v : Value} : (i, v) ∈ prs L ↔ L[i]? = some (some v) := by
  unfold prs
  rw [List.mem_filterMap]
  constructor
  · rintro ⟨a, ha, h⟩
    rw [List.getD_eq_getElem?_getD] at h
    cases hL : L[a]? with
    | none => rw [hL] at h; simp at h
    | some z =>
      rw [hL] at h
      cases z with
      | none => simp at h
      | some z => simp at h; obtain ⟨rfl, rfl⟩ := h; exact hL
  · intro h
    refine ⟨i, List.mem_range.mpr (List.getElem?_eq_some_iff.mp h).1, ?_⟩
    rw [List.getD_eq_getElem?_getD, h]; rfl
theorem lo_has {ls : Array Slot} {L : List (Option Value)} (h : lo ls L) : lv_has ls L.length (prs L) := ⟨h.1, h.2.1, fun q hq => h.2.2 q.1 q.2 (prs_mem.mp hq)⟩
theorem lo_len {ls : Array Slot} {L : List (Option Value)} (h : lo ls L) : L.length = ls.size := h.1.symm
/-- no long stands before the place -/
def lo_ok (L : List (Option Value)) (i : Nat) : Bool := match i with
  | 0 => true
  | k + 1 => match L[k]? with
    | some (some v) => v.category == 1
    | _ => true
theorem lo_ok_spec {L : List (Option Value)} {i k : Nat} {v : Value} (h : lo_ok L i = true) (hk : k + 1 = i) (hv : L[k]? = some (some v)) : (v.category == 2) = false := by
  subst hk
  simp only [lo_ok, hv] at h
  rw [beq_iff_eq] at h
  rw [h]; rfl
theorem lo_put1 {ls' : Array Slot} {L : List (Option Value)} {i : Nat} {v : Value} (hi : i < L.length) (hk : lo_ok L i = true) (h : lv_has ls' L.length ((i, v) :: (prs L).filter (fun q => !(q.1 == i) && !(q.1 + 1 == i && q.2.category == 2)))) : lo ls' (L.set i (some v)) := by
  refine ⟨by rw [List.length_set]; exact h.1, h.2.1, fun a x hx => ?_⟩
  by_cases ha : a = i
  · subst ha
    rw [List.getElem?_set_self hi] at hx
    cases hx
    exact h.2.2 _ List.mem_cons_self
  · rw [List.getElem?_set_ne (Ne.symm ha)] at hx
    refine h.2.2 (a, x) (List.mem_cons_of_mem _ (List.mem_filter.mpr ⟨prs_mem.mpr hx, ?_⟩))
    have h1 : (a == i) = false := beq_false_of_ne ha
    by_cases h2 : a + 1 = i
    · have h3 := lo_ok_spec hk h2 hx
      simp [h1, h3]
    · have h3 : (a + 1 == i) = false := beq_false_of_ne h2
      simp [h1, h3]
theorem lo_put2 {ls' : Array Slot} {L : List (Option Value)} {i : Nat} {v : Value} (hi : i < L.length) (hk : lo_ok L i = true) (h : lv_has ls' L.length ((i, v) :: (prs L).filter (fun q => !(q.1 == i) && (!(q.1 == i + 1) && !(q.1 + 1 == i && q.2.category == 2))))) : lo ls' ((L.set i (some v)).set (i + 1) none) := by
  refine ⟨by rw [List.length_set, List.length_set]; exact h.1, h.2.1, fun a x hx => ?_⟩
  by_cases hb : a = i + 1
  · subst hb
    by_cases hl : i + 1 < (L.set i (some v)).length
    · rw [List.getElem?_set_self hl] at hx; cases hx
    · rw [List.getElem?_eq_none (by rw [List.length_set]; omega)] at hx; cases hx
  · rw [List.getElem?_set_ne (Ne.symm hb)] at hx
    by_cases ha : a = i
    · subst ha
      rw [List.getElem?_set_self hi] at hx
      cases hx
      exact h.2.2 _ List.mem_cons_self
    · rw [List.getElem?_set_ne (Ne.symm ha)] at hx
      refine h.2.2 (a, x) (List.mem_cons_of_mem _ (List.mem_filter.mpr ⟨prs_mem.mpr hx, ?_⟩))
      have h1 : (a == i) = false := beq_false_of_ne ha
      have h4 : (a == i + 1) = false := beq_false_of_ne hb
      by_cases h2 : a + 1 = i
      · have h3 := lo_ok_spec hk h2 hx
        simp [h1, h3, h4]
      · have h3 : (a + 1 == i) = false := beq_false_of_ne h2
        simp [h1, h3, h4]
/-- what is known of the method that runs -/
def Cx (p : Program) (s : State) (m : MethodId) (args : Array Value) (meth : Method) (c : Code) (γ : Gm) (y : MethodName) (cc : ByteArray) (nL : Nat) (ret : Option FieldType) : Prop :=
  p.tables.exec = Jvm.exec ∧ c.code = cc ∧ c.maxLocals = nL ∧ s.vm.findClass y.cls = some m.cls ∧ (∀ w ∈ tb, w.before args s = true) ∧ meth.sig.returnType = ret ∧ meth.locks = false ∧ EnvG γ s ∧ (y.name = "<init>" → meth.name = "<init>")
/-- the machine, at pc with these locals and this stack over a heap of this picture, comes to a state with Q; k cells and j slots were made so far -/
def V (p : Program) (l : Launch) (e : Env) (R : Room) (s : State) (m : MethodId) (args : Array Value) (below : List Frame) (meth : Method) (c : Code) (γ : Gm) (Q : State → Prop) (h : HP) (k j pc : Nat) (L : List (Option Value)) (st : List Value) : Prop :=
  ∀ (H : Heap) (locs : List Loc) (ls : Array Slot), hOK γ h H → va_S (Ag γ) s.heap H locs → lo ls L → W p l e R s m args below meth c H locs k j Q (F0 m pc ls st)
theorem hOK_set {γ : Gm} {h : HP} {H H1 : Heap} {a : Nat} {e0 e : va_E} (hh : hOK γ h H) (ha : h.1 a = some e0) (z : H1.size = H.size) (oq : ∀ q : Nat, q ≠ a → H1[q]? = H[q]?) (hc : va_at γ.2.1 vwCl (a, e) H1) : hOK γ (hset h a e) H1 := by
  refine ⟨by rw [z]; exact hh.1, hh.2.1, fun b x hx => ?_⟩
  by_cases hb : b = a
  · subst hb
    have hx : some e = some x := by rw [← hx]; exact (va_up_self _ _ _).symm
    cases hx
    exact ⟨hc, (hh.2.2 _ _ ha).2⟩
  · have hx' : h.1 b = some x := by rw [← hx]; exact (va_up_ne _ _ hb).symm
    exact ⟨(hh.2.2 b x hx').1.kept (oq b hb), (hh.2.2 b x hx').2⟩
theorem hOK_new {γ : Gm} {h : HP} {H H1 : Heap} {e : va_E} (hh : hOK γ h H) (z : H1.size = H.size + 1) (oq : ∀ q : Nat, q < H.size → H1[q]? = H[q]?) (hc : va_at γ.2.1 vwCl (H.size, e) H1) : hOK γ (hnew h e) H1 := by
  refine ⟨by rw [z, hh.1]; rfl, Nat.le_succ_of_le hh.2.1, fun b x hx => ?_⟩
  by_cases hb : b = h.2
  · have hx1 : some e = some x := by rw [← hx, hb]; exact (va_up_self _ _ _).symm
    cases hx1
    rw [hb, ← hh.1]
    exact ⟨hc, by rw [hh.1]; exact hh.2.1⟩
  · have hx' : h.1 b = some x := by rw [← hx]; exact (va_up_ne _ _ hb).symm
    have hl := (hh.2.2 b x hx').1.lt
    exact ⟨(hh.2.2 b x hx').1.kept (oq b hl), (hh.2.2 b x hx').2⟩
theorem va_S.new {A : Nat → Prop} {H0 H H1 : Heap} {locs : List Loc} (hS : va_S A H0 H locs) (z : H.size ≤ H1.size) (oq : ∀ q : Nat, q < H.size → H1[q]? = H[q]?) : va_S A H0 H1 locs := ⟨Nat.le_trans hS.1 z, fun x h1 h2 => (oq x (Nat.lt_of_lt_of_le h1 hS.1)).trans (hS.2.1 x h1 h2), hS.2.2⟩
/-! static facts of fields, calls and makings: decided once for each entry of the pools -/
def FD (own : String) (index ci k : Nat) : Prop := ∃ (C ref : String) (T : u_T) (N : Nat), vwCl[ci]? = some (C, T, N) ∧ (∀ w ∈ u_ws C T N, w ∈ tb) ∧ k < N ∧ Cond.fieldLink own index ref (T k).2.1 (T k).2.2.1 ∈ tb ∧ (ref = (T k).1 ∨ Cond.sameField ref (T k).1 (T k).2.1 (T k).2.2.1 ∈ tb)
def FP (own : String) (index ci k : Nat) (fin : Bool) (ty : FieldType) : Prop := ∃ (C ref : String) (T : u_T) (N : Nat) (t0 : Nat → FieldType), vwCl[ci]? = some (C, T, N) ∧ (∀ w ∈ u_ws C T N, w ∈ tb) ∧ k < N ∧ Cond.fieldLink own index ref (T k).2.1 (T k).2.2.1 ∈ tb ∧ (ref = (T k).1 ∨ Cond.sameField ref (T k).1 (T k).2.1 (T k).2.2.1 ∈ tb) ∧ (∀ i, i < N → parseFieldDescriptor (T i).2.2.1 = some (t0 i)) ∧ (∀ a, a < N → ∀ b, b < N → a ≠ b → (T a).2.1 ≠ (T b).2.1) ∧ (T k).2.2.2 = fin ∧ (fin = true → (T k).1 = own) ∧ parseFieldDescriptor (T k).2.2.1 = some ty
def ND (own : String) (index ci n : Nat) (fs : List Value) : Prop := ∃ (C : String) (T : u_T) (t0 : Nat → FieldType), vwCl[ci]? = some (C, T, n) ∧ (∀ w ∈ u_ws C T n, w ∈ tb) ∧ (∀ i, i < n → parseFieldDescriptor (T i).2.2.1 = some (t0 i)) ∧ Cond.classLink own index C ∈ tb ∧ Cond.instantiable C n ∈ tb ∧ Cond.initialized C ∈ tb ∧ ∀ j, j < n → defaultValue (t0 j) = vp_V fs j
def MV (own : String) (index : Nat) (y : MethodName) (cc : ByteArray) (maxL : Nat) (ret : Option FieldType) (n : Nat) : Prop := (Cond.methodLink own index y ∈ tb ∧ Cond.instanceMethod y ∈ tb ∧ Cond.selects y.cls y y ∈ tb ∧ Cond.initialized y.cls ∈ tb ∧ Cond.code y cc maxL ret ∈ tb) ∧ y.cls ≠ "java/lang/invoke/MethodHandle" ∧ y.cls ≠ "java/lang/invoke/VarHandle" ∧ (parseMethodDescriptor y.desc).map (fun d => d.parameters.length) = some n
def MS (own : String) (index : Nat) (y : MethodName) (cc : ByteArray) (maxL : Nat) (ret : Option FieldType) (n : Nat) : Prop := (Cond.methodLink own index y ∈ tb ∧ Cond.static y ∈ tb ∧ Cond.initialized y.cls ∈ tb ∧ Cond.code y cc maxL ret ∈ tb) ∧ y.cls ≠ "java/lang/invoke/MethodHandle" ∧ y.cls ≠ "java/lang/invoke/VarHandle" ∧ (parseMethodDescriptor y.desc).map (fun d => d.parameters.length) = some n
def MI (own : String) (index : Nat) (y : MethodName) (cc : ByteArray) (maxL : Nat) (n : Nat) : Prop := (Cond.methodLink own index y ∈ tb ∧ Cond.instanceMethod y ∈ tb ∧ y.name = "<init>" ∧ Cond.initialized y.cls ∈ tb ∧ Cond.code y cc maxL none ∈ tb) ∧ y.cls ≠ "java/lang/invoke/MethodHandle" ∧ y.cls ≠ "java/lang/invoke/VarHandle" ∧ (parseMethodDescriptor y.desc).map (fun d => d.parameters.length) = some n
def MSN (own : String) (index : Nat) (y : MethodName) (cc : ByteArray) (maxL : Nat) (ret : Option FieldType) (n : Nat) : Prop := ((own, index, y) ∈ nests ∧ Cond.static y ∈ tb ∧ Cond.initialized y.cls ∈ tb ∧ Cond.code y cc maxL ret ∈ tb) ∧ y.cls ≠ "java/lang/invoke/MethodHandle" ∧ y.cls ≠ "java/lang/invoke/VarHandle" ∧ (parseMethodDescriptor y.desc).map (fun d => d.parameters.length) = some n
def MIN (own : String) (index : Nat) (y : MethodName) (cc : ByteArray) (maxL : Nat) (n : Nat) : Prop := ((own, index, y) ∈ nests ∧ Cond.instanceMethod y ∈ tb ∧ y.name = "<init>" ∧ Cond.initialized y.cls ∈ tb ∧ Cond.code y cc maxL none ∈ tb) ∧ y.cls ≠ "java/lang/invoke/MethodHandle" ∧ y.cls ≠ "java/lang/invoke/VarHandle" ∧ (parseMethodDescriptor y.desc).map (fun d => d.parameters.length) = some n

section VR
variable {p : Program} {l : Launch} {e : Env} {R : Room} {s : State} {m : MethodId} {args : Array Value} {below : List Frame} {meth : Method} {c : Code} {γ : Gm} {Q : State → Prop} {y : MethodName} {cc : ByteArray} {nL : Nat} {ret : Option FieldType} {h : HP} {k j pc : Nat} {L : List (Option Value)} {st : List Value}
theorem v_iconst (X : Cx p s m args meth c γ y cc nL ret) {n : Int} (d : decode cc pc = .ok (.iconst n, 1)) (kk : V p l e R s m args below meth c γ Q h k j (pc + 1) L (.int (Int32.ofInt n) :: st)) : V p l e R s m args below meth c γ Q h k j pc L (st) := fun H locs ls a b g => lv_iconst X.1 X.2.1 d rfl (kk H locs ls a b g)
theorem v_bipush (X : Cx p s m args meth c γ y cc nL ret) {n : Int} (d : decode cc pc = .ok (.bipush n, 2)) (kk : V p l e R s m args below meth c γ Q h k j (pc + 2) L (.int ((Int8.ofInt n).toInt32) :: st)) : V p l e R s m args below meth c γ Q h k j pc L (st) := fun H locs ls a b g => lv_bipush X.1 X.2.1 d rfl (kk H locs ls a b g)
theorem v_sipush (X : Cx p s m args meth c γ y cc nL ret) {n : Int} (d : decode cc pc = .ok (.sipush n, 3)) (kk : V p l e R s m args below meth c γ Q h k j (pc + 3) L (.int ((Int16.ofInt n).toInt32) :: st)) : V p l e R s m args below meth c γ Q h k j pc L (st) := fun H locs ls a b g => lv_sipush X.1 X.2.1 d rfl (kk H locs ls a b g)
theorem v_iload_n (X : Cx p s m args meth c γ y cc nL ret) {i : Fin 4} {x : Int32} (hl : L[(i : Nat)]? = some (some (.int x))) (d : decode cc pc = .ok (.iload_n i, 1)) (kk : V p l e R s m args below meth c γ Q h k j (pc + 1) L (.int x :: st)) : V p l e R s m args below meth c γ Q h k j pc L (st) := fun H locs ls a b g => lv_iload_n X.1 X.2.1 d rfl (g.2.2 _ _ hl) (kk H locs ls a b g)
theorem v_iload (X : Cx p s m args meth c γ y cc nL ret) {i : Nat} {x : Int32} (hl : L[i]? = some (some (.int x))) (d : decode cc pc = .ok (.iload i, 2)) (kk : V p l e R s m args below meth c γ Q h k j (pc + 2) L (.int x :: st)) : V p l e R s m args below meth c γ Q h k j pc L (st) := fun H locs ls a b g => lv_iload X.1 X.2.1 d (g.2.2 _ _ hl) (kk H locs ls a b g)
theorem v_lload_n (X : Cx p s m args meth c γ y cc nL ret) {i : Fin 4} {x : Int64} (hl : L[(i : Nat)]? = some (some (.long x))) (d : decode cc pc = .ok (.lload_n i, 1)) (kk : V p l e R s m args below meth c γ Q h k j (pc + 1) L (.long x :: st)) : V p l e R s m args below meth c γ Q h k j pc L (st) := fun H locs ls a b g => lv_lload_n X.1 X.2.1 d rfl (g.2.2 _ _ hl) (kk H locs ls a b g)
theorem v_aload_n (X : Cx p s m args meth c γ y cc nL ret) {i : Fin 4} {x : Nat} (hl : L[(i : Nat)]? = some (some (.ref x))) (d : decode cc pc = .ok (.aload_n i, 1)) (kk : V p l e R s m args below meth c γ Q h k j (pc + 1) L (.ref x :: st)) : V p l e R s m args below meth c γ Q h k j pc L (st) := fun H locs ls a b g => lv_aload_n X.1 X.2.1 d rfl (g.2.2 _ _ hl) (kk H locs ls a b g)
theorem v_aload (X : Cx p s m args meth c γ y cc nL ret) {i : Nat} {x : Nat} (hl : L[i]? = some (some (.ref x))) (d : decode cc pc = .ok (.aload i, 2)) (kk : V p l e R s m args below meth c γ Q h k j (pc + 2) L (.ref x :: st)) : V p l e R s m args below meth c γ Q h k j pc L (st) := fun H locs ls a b g => lv_aload X.1 X.2.1 d (g.2.2 _ _ hl) (kk H locs ls a b g)
theorem v_aconst_null (X : Cx p s m args meth c γ y cc nL ret)  (d : decode cc pc = .ok (.aconst_null, 1)) (kk : V p l e R s m args below meth c γ Q h k j (pc + 1) L (.null :: st)) : V p l e R s m args below meth c γ Q h k j pc L (st) := fun H locs ls a b g => lv_null X.1 X.2.1 d (kk H locs ls a b g)
theorem v_iadd (X : Cx p s m args meth c γ y cc nL ret) {x y : Int32} (d : decode cc pc = .ok (.iadd, 1)) (kk : V p l e R s m args below meth c γ Q h k j (pc + 1) L (.int (x + y) :: st)) : V p l e R s m args below meth c γ Q h k j pc L (.int y :: .int x :: st) := fun H locs ls a b g => lv_iadd X.1 X.2.1 d (kk H locs ls a b g)
theorem v_isub (X : Cx p s m args meth c γ y cc nL ret) {x y : Int32} (d : decode cc pc = .ok (.isub, 1)) (kk : V p l e R s m args below meth c γ Q h k j (pc + 1) L (.int (x - y) :: st)) : V p l e R s m args below meth c γ Q h k j pc L (.int y :: .int x :: st) := fun H locs ls a b g => lv_isub X.1 X.2.1 d (kk H locs ls a b g)
theorem v_imul (X : Cx p s m args meth c γ y cc nL ret) {x y : Int32} (d : decode cc pc = .ok (.imul, 1)) (kk : V p l e R s m args below meth c γ Q h k j (pc + 1) L (.int (x * y) :: st)) : V p l e R s m args below meth c γ Q h k j pc L (.int y :: .int x :: st) := fun H locs ls a b g => lv_imul X.1 X.2.1 d (kk H locs ls a b g)
theorem v_iand (X : Cx p s m args meth c γ y cc nL ret) {x y : Int32} (d : decode cc pc = .ok (.iand, 1)) (kk : V p l e R s m args below meth c γ Q h k j (pc + 1) L (.int (x &&& y) :: st)) : V p l e R s m args below meth c γ Q h k j pc L (.int y :: .int x :: st) := fun H locs ls a b g => lv_iand X.1 X.2.1 d (kk H locs ls a b g)
theorem v_ior (X : Cx p s m args meth c γ y cc nL ret) {x y : Int32} (d : decode cc pc = .ok (.ior, 1)) (kk : V p l e R s m args below meth c γ Q h k j (pc + 1) L (.int (x ||| y) :: st)) : V p l e R s m args below meth c γ Q h k j pc L (.int y :: .int x :: st) := fun H locs ls a b g => lv_ior X.1 X.2.1 d (kk H locs ls a b g)
theorem v_ixor (X : Cx p s m args meth c γ y cc nL ret) {x y : Int32} (d : decode cc pc = .ok (.ixor, 1)) (kk : V p l e R s m args below meth c γ Q h k j (pc + 1) L (.int (x ^^^ y) :: st)) : V p l e R s m args below meth c γ Q h k j pc L (.int y :: .int x :: st) := fun H locs ls a b g => lv_ixor X.1 X.2.1 d (kk H locs ls a b g)
theorem v_idiv (X : Cx p s m args meth c γ y cc nL ret) {x y : Int32} (hne : ¬ y = 0) (d : decode cc pc = .ok (.idiv, 1)) (kk : V p l e R s m args below meth c γ Q h k j (pc + 1) L (.int (x / y) :: st)) : V p l e R s m args below meth c γ Q h k j pc L (.int y :: .int x :: st) := fun H locs ls a b g => lv_idiv X.1 X.2.1 d hne (kk H locs ls a b g)
theorem v_irem (X : Cx p s m args meth c γ y cc nL ret) {x y : Int32} (hne : ¬ y = 0) (d : decode cc pc = .ok (.irem, 1)) (kk : V p l e R s m args below meth c γ Q h k j (pc + 1) L (.int (x - x / y * y) :: st)) : V p l e R s m args below meth c γ Q h k j pc L (.int y :: .int x :: st) := fun H locs ls a b g => lv_irem X.1 X.2.1 d hne (kk H locs ls a b g)
theorem v_ineg (X : Cx p s m args meth c γ y cc nL ret) {x : Int32} (d : decode cc pc = .ok (.ineg, 1)) (kk : V p l e R s m args below meth c γ Q h k j (pc + 1) L (.int (-x) :: st)) : V p l e R s m args below meth c γ Q h k j pc L (.int x :: st) := fun H locs ls a b g => lv_ineg X.1 X.2.1 d (kk H locs ls a b g)
theorem v_ishl (X : Cx p s m args meth c γ y cc nL ret) {x y : Int32} (d : decode cc pc = .ok (.ishl, 1)) (kk : V p l e R s m args below meth c γ Q h k j (pc + 1) L (.int (x <<< (y &&& 31)) :: st)) : V p l e R s m args below meth c γ Q h k j pc L (.int y :: .int x :: st) := fun H locs ls a b g => lv_ishl X.1 X.2.1 d (kk H locs ls a b g)
theorem v_ishr (X : Cx p s m args meth c γ y cc nL ret) {x y : Int32} (d : decode cc pc = .ok (.ishr, 1)) (kk : V p l e R s m args below meth c γ Q h k j (pc + 1) L (.int (x >>> (y &&& 31)) :: st)) : V p l e R s m args below meth c γ Q h k j pc L (.int y :: .int x :: st) := fun H locs ls a b g => lv_ishr X.1 X.2.1 d (kk H locs ls a b g)
theorem v_ladd (X : Cx p s m args meth c γ y cc nL ret) {x y : Int64} (d : decode cc pc = .ok (.ladd, 1)) (kk : V p l e R s m args below meth c γ Q h k j (pc + 1) L (.long (x + y) :: st)) : V p l e R s m args below meth c γ Q h k j pc L (.long y :: .long x :: st) := fun H locs ls a b g => lv_ladd X.1 X.2.1 d (kk H locs ls a b g)
theorem v_lmul (X : Cx p s m args meth c γ y cc nL ret) {x y : Int64} (d : decode cc pc = .ok (.lmul, 1)) (kk : V p l e R s m args below meth c γ Q h k j (pc + 1) L (.long (x * y) :: st)) : V p l e R s m args below meth c γ Q h k j pc L (.long y :: .long x :: st) := fun H locs ls a b g => lv_lmul X.1 X.2.1 d (kk H locs ls a b g)
theorem v_i2l (X : Cx p s m args meth c γ y cc nL ret) {x : Int32} (d : decode cc pc = .ok (.i2l, 1)) (kk : V p l e R s m args below meth c γ Q h k j (pc + 1) L (.long x.toInt64 :: st)) : V p l e R s m args below meth c γ Q h k j pc L (.int x :: st) := fun H locs ls a b g => lv_i2l X.1 X.2.1 d rfl (kk H locs ls a b g)
theorem v_i2b (X : Cx p s m args meth c γ y cc nL ret) {x : Int32} (d : decode cc pc = .ok (.i2b, 1)) (kk : V p l e R s m args below meth c γ Q h k j (pc + 1) L (.int x.toInt8.toInt32 :: st)) : V p l e R s m args below meth c γ Q h k j pc L (.int x :: st) := fun H locs ls a b g => lv_i2b X.1 X.2.1 d rfl (kk H locs ls a b g)
theorem v_i2c (X : Cx p s m args meth c γ y cc nL ret) {x : Int32} (d : decode cc pc = .ok (.i2c, 1)) (kk : V p l e R s m args below meth c γ Q h k j (pc + 1) L (.int (x.toUInt32 % 65536).toInt32 :: st)) : V p l e R s m args below meth c γ Q h k j pc L (.int x :: st) := fun H locs ls a b g => lv_i2c X.1 X.2.1 d rfl (kk H locs ls a b g)
theorem v_lcmp (X : Cx p s m args meth c γ y cc nL ret) {x y : Int64} (d : decode cc pc = .ok (.lcmp, 1)) (kk : V p l e R s m args below meth c γ Q h k j (pc + 1) L (.int (lg_cmp x y) :: st)) : V p l e R s m args below meth c γ Q h k j pc L (.long y :: .long x :: st) := fun H locs ls a b g => W.lcmp X.1 X.2.1 d (kk H locs ls a b g)
theorem v_dup (X : Cx p s m args meth c γ y cc nL ret) {v : Value} (h1 : v.category = 1) (d : decode cc pc = .ok (.dup, 1)) (kk : V p l e R s m args below meth c γ Q h k j (pc + 1) L (v :: v :: st)) : V p l e R s m args below meth c γ Q h k j pc L (v :: st) := fun H locs ls a b g => lv_dup X.1 X.2.1 d h1 (kk H locs ls a b g)
theorem v_pop (X : Cx p s m args meth c γ y cc nL ret) {v : Value} (h1 : v.category = 1) (d : decode cc pc = .ok (.pop, 1)) (kk : V p l e R s m args below meth c γ Q h k j (pc + 1) L (st)) : V p l e R s m args below meth c γ Q h k j pc L (v :: st) := fun H locs ls a b g => lv_pop X.1 X.2.1 d h1 (kk H locs ls a b g)
theorem v_dup_x1 (X : Cx p s m args meth c γ y cc nL ret) {v w : Value} (h1 : v.category = 1) (h2 : w.category = 1) (d : decode cc pc = .ok (.dup_x1, 1)) (kk : V p l e R s m args below meth c γ Q h k j (pc + 1) L (v :: w :: v :: st)) : V p l e R s m args below meth c γ Q h k j pc L (v :: w :: st) := fun H locs ls a b g => lv_dup_x1 X.1 X.2.1 d h1 h2 (kk H locs ls a b g)
theorem v_dup2 (X : Cx p s m args meth c γ y cc nL ret) {v w : Value} (h1 : v.category = 1) (h2 : w.category = 1) (d : decode cc pc = .ok (.dup2, 1)) (kk : V p l e R s m args below meth c γ Q h k j (pc + 1) L (v :: w :: v :: w :: st)) : V p l e R s m args below meth c γ Q h k j pc L (v :: w :: st) := fun H locs ls a b g => lv_dup2_11 X.1 X.2.1 d h1 h2 (kk H locs ls a b g)
theorem v_istore_n (X : Cx p s m args meth c γ y cc nL ret) {i : Fin 4} {x : Int32} (hi : (i : Nat) < L.length) (ho : lo_ok L (i : Nat) = true) (d : decode cc pc = .ok (.istore_n i, 1)) (kk : V p l e R s m args below meth c γ Q h k j (pc + 1) (L.set (i : Nat) (some (.int x))) st) : V p l e R s m args below meth c γ Q h k j pc L (.int x :: st) := fun H locs ls a b g => lv_istore_n X.1 X.2.1 d rfl (lo_has g) hi rfl (fun ls' g' => kk H locs ls' a b (lo_put1 hi ho g'))
theorem v_istore (X : Cx p s m args meth c γ y cc nL ret) {i : Nat} {x : Int32} (hi : i < L.length) (ho : lo_ok L i = true) (d : decode cc pc = .ok (.istore i, 2)) (kk : V p l e R s m args below meth c γ Q h k j (pc + 2) (L.set i (some (.int x))) st) : V p l e R s m args below meth c γ Q h k j pc L (.int x :: st) := fun H locs ls a b g => lv_istore X.1 X.2.1 d (lo_has g) hi rfl (fun ls' g' => kk H locs ls' a b (lo_put1 hi ho g'))
theorem v_astore_n (X : Cx p s m args meth c γ y cc nL ret) {i : Fin 4} {x : Nat} (hi : (i : Nat) < L.length) (ho : lo_ok L (i : Nat) = true) (d : decode cc pc = .ok (.astore_n i, 1)) (kk : V p l e R s m args below meth c γ Q h k j (pc + 1) (L.set (i : Nat) (some (.ref x))) st) : V p l e R s m args below meth c γ Q h k j pc L (.ref x :: st) := fun H locs ls a b g => lv_astore_n X.1 X.2.1 d rfl (lo_has g) hi rfl (fun ls' g' => kk H locs ls' a b (lo_put1 hi ho g'))
theorem v_astore (X : Cx p s m args meth c γ y cc nL ret) {i : Nat} {x : Nat} (hi : i < L.length) (ho : lo_ok L i = true) (d : decode cc pc = .ok (.astore i, 2)) (kk : V p l e R s m args below meth c γ Q h k j (pc + 2) (L.set i (some (.ref x))) st) : V p l e R s m args below meth c γ Q h k j pc L (.ref x :: st) := fun H locs ls a b g => lv_astore X.1 X.2.1 d (lo_has g) hi rfl (fun ls' g' => kk H locs ls' a b (lo_put1 hi ho g'))
theorem v_astoreN_n (X : Cx p s m args meth c γ y cc nL ret) {i : Fin 4} (hi : (i : Nat) < L.length) (ho : lo_ok L (i : Nat) = true) (d : decode cc pc = .ok (.astore_n i, 1)) (kk : V p l e R s m args below meth c γ Q h k j (pc + 1) (L.set (i : Nat) (some .null)) st) : V p l e R s m args below meth c γ Q h k j pc L (.null :: st) := fun H locs ls a b g => lv_astore_nN X.1 X.2.1 d rfl (lo_has g) hi rfl (fun ls' g' => kk H locs ls' a b (lo_put1 hi ho g'))
theorem v_lstore_n (X : Cx p s m args meth c γ y cc nL ret) {i : Fin 4} {x : Int64} (hi : (i : Nat) + 1 < L.length) (ho : lo_ok L (i : Nat) = true) (d : decode cc pc = .ok (.lstore_n i, 1)) (kk : V p l e R s m args below meth c γ Q h k j (pc + 1) ((L.set (i : Nat) (some (.long x))).set ((i : Nat) + 1) none) st) : V p l e R s m args below meth c γ Q h k j pc L (.long x :: st) := fun H locs ls a b g => lv_lstore_n X.1 X.2.1 d rfl (lo_has g) hi rfl (fun ls' g' => kk H locs ls' a b (lo_put2 (by omega) ho g'))
theorem v_iinc (X : Cx p s m args meth c γ y cc nL ret) {i : Nat} {n : Int} {x : Int32} (hx : L[i]? = some (some (.int x))) (ho : lo_ok L i = true) (d : decode cc pc = .ok (.iinc i n, 3)) (kk : V p l e R s m args below meth c γ Q h k j (pc + 3) (L.set i (some (.int (x + Int32.ofInt n)))) st) : V p l e R s m args below meth c γ Q h k j pc L st := by
  intro H locs ls a b g
  have hm : (i, Value.int x) ∈ prs L := prs_mem.mpr hx
  obtain ⟨q, hq⟩ := List.getElem?_of_mem hm
  have hi := (List.getElem?_eq_some_iff.mp hx).1
  exact lv_iinc X.1 X.2.1 d (lo_has g) hq rfl hi rfl (fun ls' g' => kk H locs ls' a b (lo_put1 hi ho g'))
theorem v_goto (X : Cx p s m args meth c γ y cc nL ret) {off : Int} {tgt : Nat} (d : decode cc pc = .ok (.goto off, 3)) (ht : (pc : Int) + off = (tgt : Int)) (kk : V p l e R s m args below meth c γ Q h k j tgt L st) : V p l e R s m args below meth c γ Q h k j pc L st := fun H locs ls a b g => lv_goto X.1 X.2.1 d ht (kk H locs ls a b g)
theorem v_if_eq (X : Cx p s m args meth c γ y cc nL ret) {x : Int32} {off : Int} {tgt : Nat} (d : decode cc pc = .ok (.ifCond .eq off, 3)) (ht : (pc : Int) + off = (tgt : Int)) (kt : x = 0 → V p l e R s m args below meth c γ Q h k j tgt L st) (kf : ¬ x = 0 → V p l e R s m args below meth c γ Q h k j (pc + 3) L st) : V p l e R s m args below meth c γ Q h k j pc L (.int x :: st) := fun H locs ls a b g => lv_if_eq X.1 X.2.1 d ht (fun q => kt q H locs ls a b g) (fun q => kf q H locs ls a b g)
theorem v_if_eq_t (X : Cx p s m args meth c γ y cc nL ret) {x : Int32} {off : Int} {tgt : Nat} (d : decode cc pc = .ok (.ifCond .eq off, 3)) (ht : (pc : Int) + off = (tgt : Int)) (q : x = 0) (kt : V p l e R s m args below meth c γ Q h k j tgt L st) : V p l e R s m args below meth c γ Q h k j pc L (.int x :: st) := v_if_eq X d ht (fun _ => kt) (fun z => absurd q z)
theorem v_if_eq_f (X : Cx p s m args meth c γ y cc nL ret) {x : Int32} {off : Int} {tgt : Nat} (d : decode cc pc = .ok (.ifCond .eq off, 3)) (ht : (pc : Int) + off = (tgt : Int)) (q : ¬ x = 0) (kf : V p l e R s m args below meth c γ Q h k j (pc + 3) L st) : V p l e R s m args below meth c γ Q h k j pc L (.int x :: st) := v_if_eq X d ht (fun z => absurd z q) (fun _ => kf)
theorem v_icmp_eq (X : Cx p s m args meth c γ y cc nL ret) {x y : Int32} {off : Int} {tgt : Nat} (d : decode cc pc = .ok (.if_icmp .eq off, 3)) (ht : (pc : Int) + off = (tgt : Int)) (kt : x = y → V p l e R s m args below meth c γ Q h k j tgt L st) (kf : ¬ x = y → V p l e R s m args below meth c γ Q h k j (pc + 3) L st) : V p l e R s m args below meth c γ Q h k j pc L (.int y :: .int x :: st) := fun H locs ls a b g => lv_icmp_eq X.1 X.2.1 d ht (fun q => kt q H locs ls a b g) (fun q => kf q H locs ls a b g)
theorem v_icmp_eq_t (X : Cx p s m args meth c γ y cc nL ret) {x y : Int32} {off : Int} {tgt : Nat} (d : decode cc pc = .ok (.if_icmp .eq off, 3)) (ht : (pc : Int) + off = (tgt : Int)) (q : x = y) (kt : V p l e R s m args below meth c γ Q h k j tgt L st) : V p l e R s m args below meth c γ Q h k j pc L (.int y :: .int x :: st) := v_icmp_eq X d ht (fun _ => kt) (fun z => absurd q z)
theorem v_icmp_eq_f (X : Cx p s m args meth c γ y cc nL ret) {x y : Int32} {off : Int} {tgt : Nat} (d : decode cc pc = .ok (.if_icmp .eq off, 3)) (ht : (pc : Int) + off = (tgt : Int)) (q : ¬ x = y) (kf : V p l e R s m args below meth c γ Q h k j (pc + 3) L st) : V p l e R s m args below meth c γ Q h k j pc L (.int y :: .int x :: st) := v_icmp_eq X d ht (fun z => absurd z q) (fun _ => kf)
theorem v_if_ne (X : Cx p s m args meth c γ y cc nL ret) {x : Int32} {off : Int} {tgt : Nat} (d : decode cc pc = .ok (.ifCond .ne off, 3)) (ht : (pc : Int) + off = (tgt : Int)) (kt : ¬ x = 0 → V p l e R s m args below meth c γ Q h k j tgt L st) (kf : x = 0 → V p l e R s m args below meth c γ Q h k j (pc + 3) L st) : V p l e R s m args below meth c γ Q h k j pc L (.int x :: st) := fun H locs ls a b g => lv_if_ne X.1 X.2.1 d ht (fun q => kt q H locs ls a b g) (fun q => kf q H locs ls a b g)
theorem v_if_ne_t (X : Cx p s m args meth c γ y cc nL ret) {x : Int32} {off : Int} {tgt : Nat} (d : decode cc pc = .ok (.ifCond .ne off, 3)) (ht : (pc : Int) + off = (tgt : Int)) (q : ¬ x = 0) (kt : V p l e R s m args below meth c γ Q h k j tgt L st) : V p l e R s m args below meth c γ Q h k j pc L (.int x :: st) := v_if_ne X d ht (fun _ => kt) (fun z => absurd z q)
theorem v_if_ne_f (X : Cx p s m args meth c γ y cc nL ret) {x : Int32} {off : Int} {tgt : Nat} (d : decode cc pc = .ok (.ifCond .ne off, 3)) (ht : (pc : Int) + off = (tgt : Int)) (q : x = 0) (kf : V p l e R s m args below meth c γ Q h k j (pc + 3) L st) : V p l e R s m args below meth c γ Q h k j pc L (.int x :: st) := v_if_ne X d ht (fun z => absurd q z) (fun _ => kf)
theorem v_icmp_ne (X : Cx p s m args meth c γ y cc nL ret) {x y : Int32} {off : Int} {tgt : Nat} (d : decode cc pc = .ok (.if_icmp .ne off, 3)) (ht : (pc : Int) + off = (tgt : Int)) (kt : ¬ x = y → V p l e R s m args below meth c γ Q h k j tgt L st) (kf : x = y → V p l e R s m args below meth c γ Q h k j (pc + 3) L st) : V p l e R s m args below meth c γ Q h k j pc L (.int y :: .int x :: st) := fun H locs ls a b g => lv_icmp_ne X.1 X.2.1 d ht (fun q => kt q H locs ls a b g) (fun q => kf q H locs ls a b g)
theorem v_icmp_ne_t (X : Cx p s m args meth c γ y cc nL ret) {x y : Int32} {off : Int} {tgt : Nat} (d : decode cc pc = .ok (.if_icmp .ne off, 3)) (ht : (pc : Int) + off = (tgt : Int)) (q : ¬ x = y) (kt : V p l e R s m args below meth c γ Q h k j tgt L st) : V p l e R s m args below meth c γ Q h k j pc L (.int y :: .int x :: st) := v_icmp_ne X d ht (fun _ => kt) (fun z => absurd z q)
theorem v_icmp_ne_f (X : Cx p s m args meth c γ y cc nL ret) {x y : Int32} {off : Int} {tgt : Nat} (d : decode cc pc = .ok (.if_icmp .ne off, 3)) (ht : (pc : Int) + off = (tgt : Int)) (q : x = y) (kf : V p l e R s m args below meth c γ Q h k j (pc + 3) L st) : V p l e R s m args below meth c γ Q h k j pc L (.int y :: .int x :: st) := v_icmp_ne X d ht (fun z => absurd q z) (fun _ => kf)
theorem v_if_lt (X : Cx p s m args meth c γ y cc nL ret) {x : Int32} {off : Int} {tgt : Nat} (d : decode cc pc = .ok (.ifCond .lt off, 3)) (ht : (pc : Int) + off = (tgt : Int)) (kt : x < 0 → V p l e R s m args below meth c γ Q h k j tgt L st) (kf : ¬ x < 0 → V p l e R s m args below meth c γ Q h k j (pc + 3) L st) : V p l e R s m args below meth c γ Q h k j pc L (.int x :: st) := fun H locs ls a b g => lv_if_lt X.1 X.2.1 d ht (fun q => kt q H locs ls a b g) (fun q => kf q H locs ls a b g)
theorem v_if_lt_t (X : Cx p s m args meth c γ y cc nL ret) {x : Int32} {off : Int} {tgt : Nat} (d : decode cc pc = .ok (.ifCond .lt off, 3)) (ht : (pc : Int) + off = (tgt : Int)) (q : x < 0) (kt : V p l e R s m args below meth c γ Q h k j tgt L st) : V p l e R s m args below meth c γ Q h k j pc L (.int x :: st) := v_if_lt X d ht (fun _ => kt) (fun z => absurd q z)
theorem v_if_lt_f (X : Cx p s m args meth c γ y cc nL ret) {x : Int32} {off : Int} {tgt : Nat} (d : decode cc pc = .ok (.ifCond .lt off, 3)) (ht : (pc : Int) + off = (tgt : Int)) (q : ¬ x < 0) (kf : V p l e R s m args below meth c γ Q h k j (pc + 3) L st) : V p l e R s m args below meth c γ Q h k j pc L (.int x :: st) := v_if_lt X d ht (fun z => absurd z q) (fun _ => kf)
theorem v_icmp_lt (X : Cx p s m args meth c γ y cc nL ret) {x y : Int32} {off : Int} {tgt : Nat} (d : decode cc pc = .ok (.if_icmp .lt off, 3)) (ht : (pc : Int) + off = (tgt : Int)) (kt : x < y → V p l e R s m args below meth c γ Q h k j tgt L st) (kf : ¬ x < y → V p l e R s m args below meth c γ Q h k j (pc + 3) L st) : V p l e R s m args below meth c γ Q h k j pc L (.int y :: .int x :: st) := fun H locs ls a b g => lv_icmp_lt X.1 X.2.1 d ht (fun q => kt q H locs ls a b g) (fun q => kf q H locs ls a b g)
theorem v_icmp_lt_t (X : Cx p s m args meth c γ y cc nL ret) {x y : Int32} {off : Int} {tgt : Nat} (d : decode cc pc = .ok (.if_icmp .lt off, 3)) (ht : (pc : Int) + off = (tgt : Int)) (q : x < y) (kt : V p l e R s m args below meth c γ Q h k j tgt L st) : V p l e R s m args below meth c γ Q h k j pc L (.int y :: .int x :: st) := v_icmp_lt X d ht (fun _ => kt) (fun z => absurd q z)
theorem v_icmp_lt_f (X : Cx p s m args meth c γ y cc nL ret) {x y : Int32} {off : Int} {tgt : Nat} (d : decode cc pc = .ok (.if_icmp .lt off, 3)) (ht : (pc : Int) + off = (tgt : Int)) (q : ¬ x < y) (kf : V p l e R s m args below meth c γ Q h k j (pc + 3) L st) : V p l e R s m args below meth c γ Q h k j pc L (.int y :: .int x :: st) := v_icmp_lt X d ht (fun z => absurd z q) (fun _ => kf)
theorem v_if_ge (X : Cx p s m args meth c γ y cc nL ret) {x : Int32} {off : Int} {tgt : Nat} (d : decode cc pc = .ok (.ifCond .ge off, 3)) (ht : (pc : Int) + off = (tgt : Int)) (kt : 0 ≤ x → V p l e R s m args below meth c γ Q h k j tgt L st) (kf : ¬ 0 ≤ x → V p l e R s m args below meth c γ Q h k j (pc + 3) L st) : V p l e R s m args below meth c γ Q h k j pc L (.int x :: st) := fun H locs ls a b g => lv_if_ge X.1 X.2.1 d ht (fun q => kt q H locs ls a b g) (fun q => kf q H locs ls a b g)
theorem v_if_ge_t (X : Cx p s m args meth c γ y cc nL ret) {x : Int32} {off : Int} {tgt : Nat} (d : decode cc pc = .ok (.ifCond .ge off, 3)) (ht : (pc : Int) + off = (tgt : Int)) (q : 0 ≤ x) (kt : V p l e R s m args below meth c γ Q h k j tgt L st) : V p l e R s m args below meth c γ Q h k j pc L (.int x :: st) := v_if_ge X d ht (fun _ => kt) (fun z => absurd q z)
theorem v_if_ge_f (X : Cx p s m args meth c γ y cc nL ret) {x : Int32} {off : Int} {tgt : Nat} (d : decode cc pc = .ok (.ifCond .ge off, 3)) (ht : (pc : Int) + off = (tgt : Int)) (q : ¬ 0 ≤ x) (kf : V p l e R s m args below meth c γ Q h k j (pc + 3) L st) : V p l e R s m args below meth c γ Q h k j pc L (.int x :: st) := v_if_ge X d ht (fun z => absurd z q) (fun _ => kf)
theorem v_icmp_ge (X : Cx p s m args meth c γ y cc nL ret) {x y : Int32} {off : Int} {tgt : Nat} (d : decode cc pc = .ok (.if_icmp .ge off, 3)) (ht : (pc : Int) + off = (tgt : Int)) (kt : y ≤ x → V p l e R s m args below meth c γ Q h k j tgt L st) (kf : ¬ y ≤ x → V p l e R s m args below meth c γ Q h k j (pc + 3) L st) : V p l e R s m args below meth c γ Q h k j pc L (.int y :: .int x :: st) := fun H locs ls a b g => lv_icmp_ge X.1 X.2.1 d ht (fun q => kt q H locs ls a b g) (fun q => kf q H locs ls a b g)
theorem v_icmp_ge_t (X : Cx p s m args meth c γ y cc nL ret) {x y : Int32} {off : Int} {tgt : Nat} (d : decode cc pc = .ok (.if_icmp .ge off, 3)) (ht : (pc : Int) + off = (tgt : Int)) (q : y ≤ x) (kt : V p l e R s m args below meth c γ Q h k j tgt L st) : V p l e R s m args below meth c γ Q h k j pc L (.int y :: .int x :: st) := v_icmp_ge X d ht (fun _ => kt) (fun z => absurd q z)
theorem v_icmp_ge_f (X : Cx p s m args meth c γ y cc nL ret) {x y : Int32} {off : Int} {tgt : Nat} (d : decode cc pc = .ok (.if_icmp .ge off, 3)) (ht : (pc : Int) + off = (tgt : Int)) (q : ¬ y ≤ x) (kf : V p l e R s m args below meth c γ Q h k j (pc + 3) L st) : V p l e R s m args below meth c γ Q h k j pc L (.int y :: .int x :: st) := v_icmp_ge X d ht (fun z => absurd z q) (fun _ => kf)
theorem v_if_gt (X : Cx p s m args meth c γ y cc nL ret) {x : Int32} {off : Int} {tgt : Nat} (d : decode cc pc = .ok (.ifCond .gt off, 3)) (ht : (pc : Int) + off = (tgt : Int)) (kt : 0 < x → V p l e R s m args below meth c γ Q h k j tgt L st) (kf : ¬ 0 < x → V p l e R s m args below meth c γ Q h k j (pc + 3) L st) : V p l e R s m args below meth c γ Q h k j pc L (.int x :: st) := fun H locs ls a b g => lv_if_gt X.1 X.2.1 d ht (fun q => kt q H locs ls a b g) (fun q => kf q H locs ls a b g)
theorem v_if_gt_t (X : Cx p s m args meth c γ y cc nL ret) {x : Int32} {off : Int} {tgt : Nat} (d : decode cc pc = .ok (.ifCond .gt off, 3)) (ht : (pc : Int) + off = (tgt : Int)) (q : 0 < x) (kt : V p l e R s m args below meth c γ Q h k j tgt L st) : V p l e R s m args below meth c γ Q h k j pc L (.int x :: st) := v_if_gt X d ht (fun _ => kt) (fun z => absurd q z)
theorem v_if_gt_f (X : Cx p s m args meth c γ y cc nL ret) {x : Int32} {off : Int} {tgt : Nat} (d : decode cc pc = .ok (.ifCond .gt off, 3)) (ht : (pc : Int) + off = (tgt : Int)) (q : ¬ 0 < x) (kf : V p l e R s m args below meth c γ Q h k j (pc + 3) L st) : V p l e R s m args below meth c γ Q h k j pc L (.int x :: st) := v_if_gt X d ht (fun z => absurd z q) (fun _ => kf)
theorem v_icmp_gt (X : Cx p s m args meth c γ y cc nL ret) {x y : Int32} {off : Int} {tgt : Nat} (d : decode cc pc = .ok (.if_icmp .gt off, 3)) (ht : (pc : Int) + off = (tgt : Int)) (kt : y < x → V p l e R s m args below meth c γ Q h k j tgt L st) (kf : ¬ y < x → V p l e R s m args below meth c γ Q h k j (pc + 3) L st) : V p l e R s m args below meth c γ Q h k j pc L (.int y :: .int x :: st) := fun H locs ls a b g => lv_icmp_gt X.1 X.2.1 d ht (fun q => kt q H locs ls a b g) (fun q => kf q H locs ls a b g)
theorem v_icmp_gt_t (X : Cx p s m args meth c γ y cc nL ret) {x y : Int32} {off : Int} {tgt : Nat} (d : decode cc pc = .ok (.if_icmp .gt off, 3)) (ht : (pc : Int) + off = (tgt : Int)) (q : y < x) (kt : V p l e R s m args below meth c γ Q h k j tgt L st) : V p l e R s m args below meth c γ Q h k j pc L (.int y :: .int x :: st) := v_icmp_gt X d ht (fun _ => kt) (fun z => absurd q z)
theorem v_icmp_gt_f (X : Cx p s m args meth c γ y cc nL ret) {x y : Int32} {off : Int} {tgt : Nat} (d : decode cc pc = .ok (.if_icmp .gt off, 3)) (ht : (pc : Int) + off = (tgt : Int)) (q : ¬ y < x) (kf : V p l e R s m args below meth c γ Q h k j (pc + 3) L st) : V p l e R s m args below meth c γ Q h k j pc L (.int y :: .int x :: st) := v_icmp_gt X d ht (fun z => absurd z q) (fun _ => kf)
theorem v_if_le (X : Cx p s m args meth c γ y cc nL ret) {x : Int32} {off : Int} {tgt : Nat} (d : decode cc pc = .ok (.ifCond .le off, 3)) (ht : (pc : Int) + off = (tgt : Int)) (kt : x ≤ 0 → V p l e R s m args below meth c γ Q h k j tgt L st) (kf : ¬ x ≤ 0 → V p l e R s m args below meth c γ Q h k j (pc + 3) L st) : V p l e R s m args below meth c γ Q h k j pc L (.int x :: st) := fun H locs ls a b g => lv_if_le X.1 X.2.1 d ht (fun q => kt q H locs ls a b g) (fun q => kf q H locs ls a b g)
theorem v_if_le_t (X : Cx p s m args meth c γ y cc nL ret) {x : Int32} {off : Int} {tgt : Nat} (d : decode cc pc = .ok (.ifCond .le off, 3)) (ht : (pc : Int) + off = (tgt : Int)) (q : x ≤ 0) (kt : V p l e R s m args below meth c γ Q h k j tgt L st) : V p l e R s m args below meth c γ Q h k j pc L (.int x :: st) := v_if_le X d ht (fun _ => kt) (fun z => absurd q z)
theorem v_if_le_f (X : Cx p s m args meth c γ y cc nL ret) {x : Int32} {off : Int} {tgt : Nat} (d : decode cc pc = .ok (.ifCond .le off, 3)) (ht : (pc : Int) + off = (tgt : Int)) (q : ¬ x ≤ 0) (kf : V p l e R s m args below meth c γ Q h k j (pc + 3) L st) : V p l e R s m args below meth c γ Q h k j pc L (.int x :: st) := v_if_le X d ht (fun z => absurd z q) (fun _ => kf)
theorem v_icmp_le (X : Cx p s m args meth c γ y cc nL ret) {x y : Int32} {off : Int} {tgt : Nat} (d : decode cc pc = .ok (.if_icmp .le off, 3)) (ht : (pc : Int) + off = (tgt : Int)) (kt : x ≤ y → V p l e R s m args below meth c γ Q h k j tgt L st) (kf : ¬ x ≤ y → V p l e R s m args below meth c γ Q h k j (pc + 3) L st) : V p l e R s m args below meth c γ Q h k j pc L (.int y :: .int x :: st) := fun H locs ls a b g => lv_icmp_le X.1 X.2.1 d ht (fun q => kt q H locs ls a b g) (fun q => kf q H locs ls a b g)
theorem v_icmp_le_t (X : Cx p s m args meth c γ y cc nL ret) {x y : Int32} {off : Int} {tgt : Nat} (d : decode cc pc = .ok (.if_icmp .le off, 3)) (ht : (pc : Int) + off = (tgt : Int)) (q : x ≤ y) (kt : V p l e R s m args below meth c γ Q h k j tgt L st) : V p l e R s m args below meth c γ Q h k j pc L (.int y :: .int x :: st) := v_icmp_le X d ht (fun _ => kt) (fun z => absurd q z)
theorem v_icmp_le_f (X : Cx p s m args meth c γ y cc nL ret) {x y : Int32} {off : Int} {tgt : Nat} (d : decode cc pc = .ok (.if_icmp .le off, 3)) (ht : (pc : Int) + off = (tgt : Int)) (q : ¬ x ≤ y) (kf : V p l e R s m args below meth c γ Q h k j (pc + 3) L st) : V p l e R s m args below meth c γ Q h k j pc L (.int y :: .int x :: st) := v_icmp_le X d ht (fun z => absurd z q) (fun _ => kf)
theorem v_acmp_eq (X : Cx p s m args meth c γ y cc nL ret) {rx ry : Nat} {off : Int} {tgt : Nat} (d : decode cc pc = .ok (.if_acmp .eq off, 3)) (ht : (pc : Int) + off = (tgt : Int)) (kt : rx = ry → V p l e R s m args below meth c γ Q h k j tgt L st) (kf : ¬ rx = ry → V p l e R s m args below meth c γ Q h k j (pc + 3) L st) : V p l e R s m args below meth c γ Q h k j pc L (.ref ry :: .ref rx :: st) := fun H locs ls a b g => lv_acmp_eq (rx := some rx) (ry := some ry) X.1 X.2.1 d ht (fun q => kt (by simpa using q) H locs ls a b g) (fun q => kf (by simpa using q) H locs ls a b g)
theorem v_acmp_ne (X : Cx p s m args meth c γ y cc nL ret) {rx ry : Nat} {off : Int} {tgt : Nat} (d : decode cc pc = .ok (.if_acmp .ne off, 3)) (ht : (pc : Int) + off = (tgt : Int)) (kt : ¬ rx = ry → V p l e R s m args below meth c γ Q h k j tgt L st) (kf : rx = ry → V p l e R s m args below meth c γ Q h k j (pc + 3) L st) : V p l e R s m args below meth c γ Q h k j pc L (.ref ry :: .ref rx :: st) := fun H locs ls a b g => lv_acmp_ne (rx := some rx) (ry := some ry) X.1 X.2.1 d ht (fun q => kt (by simpa using q) H locs ls a b g) (fun q => kf (by simpa using q) H locs ls a b g)
theorem v_tableOut (X : Cx p s m args meth c γ y cc nL ret) {dflt lo hi : Int} {offs : Array Int} {len tgt : Nat} {x : Int32} (d : decode cc pc = .ok (.tableswitch dflt lo hi offs, len)) (q : x.toInt < lo ∨ hi < x.toInt) (ht : (pc : Int) + dflt = (tgt : Int)) (kk : V p l e R s m args below meth c γ Q h k j tgt L st) : V p l e R s m args below meth c γ Q h k j pc L (.int x :: st) := fun H locs ls a b g => lv_tableOut X.1 X.2.1 d q ht (kk H locs ls a b g)
theorem v_tableIn (X : Cx p s m args meth c γ y cc nL ret) {dflt lo hi : Int} {offs : Array Int} {len tgt : Nat} {x : Int32} {off : Int} (d : decode cc pc = .ok (.tableswitch dflt lo hi offs, len)) (h1 : ¬ x.toInt < lo) (h2 : ¬ hi < x.toInt) (ho : offs[(x.toInt - lo).toNat]? = some off) (ht : (pc : Int) + off = (tgt : Int)) (kk : V p l e R s m args below meth c γ Q h k j tgt L st) : V p l e R s m args below meth c γ Q h k j pc L (.int x :: st) := fun H locs ls a b g => lv_tableIn X.1 X.2.1 d h1 h2 ho ht (kk H locs ls a b g)
theorem v_lookup (X : Cx p s m args meth c γ y cc nL ret) {dflt : Int} {ps : Array (Int × Int)} {len tgt : Nat} {x : Int32} {off : Int} (d : decode cc pc = .ok (.lookupswitch dflt ps, len)) (hp : (ps.toList.zip (ps.toList.drop 1)).all (fun (a, next) => a.1 < next.1) = true) (ho : Op.lookupswitch.offset ps.toList dflt x.toInt = off) (ht : (pc : Int) + off = (tgt : Int)) (kk : V p l e R s m args below meth c γ Q h k j tgt L st) : V p l e R s m args below meth c γ Q h k j pc L (.int x :: st) := fun H locs ls a b g => lv_lookup X.1 X.2.1 d hp ho ht (kk H locs ls a b g)
theorem v_widen {k' j' : Nat} (hk : k ≤ k') (hj : j ≤ j') (kk : V p l e R s m args below meth c γ Q h k' j' pc L st) : V p l e R s m args below meth c γ Q h k j pc L st := fun H locs ls a b g => W.widen hk hj (kk H locs ls a b g)
theorem at_of {H : Heap} {a : Nat} {e0 : va_E} (hh : hOK γ h H) (ha : h.1 a = some e0) : va_P γ.2.1 vwCl [(a, e0)] H := fun k q hq => by
  have hz : k < 1 := (List.getElem?_eq_some_iff.mp hq).1
  rw [show k = 0 by omega] at hq
  cases hq
  exact (hh.2.2 a e0 ha).1
theorem v_getf (X : Cx p s m args meth c γ y cc nL ret) {index ci kf a : Nat} {fs : List Value} {v : Value} (F : FD y.cls index ci kf) (hr : h.1 a = some (.inr (ci, fs))) (hv : fs[kf]? = some v) (d : decode cc pc = .ok (.getfield index, 3)) (kk : V p l e R s m args below meth c γ Q h k j (pc + 3) L (v :: st)) : V p l e R s m args below meth c γ Q h k j pc L (.ref a :: st) := by
  intro H locs ls hh hS hl
  obtain ⟨C, ref, T, N, f1, f2, f3, f4, f5⟩ := F
  exact va_get X.1 X.2.1 X.2.2.2.2.1 f2 X.2.2.2.1 X.2.2.2.2.2.2.2.1.1 (at_of hh hr) 0 rfl f1 kf f3 (X.2.2.2.2.1 _ f4) (fun x hx => f5.elim (fun z => by rw [z]; exact hx) (fun z => u_same (X.2.2.2.2.1 _ z) x hx)) hv d (kk H locs ls hh hS hl)
theorem v_putf (X : Cx p s m args meth c γ y cc nL ret) {index ci kf a : Nat} {fs : List Value} {v : Value} {ty : FieldType} (F : FP y.cls index ci kf false ty) (hr : h.1 a = some (.inr (ci, fs))) (hn : narrow ty v = v) (hfit : fits ty v = true) (hl : kf < fs.length) (d : decode cc pc = .ok (.putfield index, 3)) (kk : V p l e R s m args below meth c γ Q (hset h a (.inr (ci, fs.set kf v))) k j (pc + 3) L st) : V p l e R s m args below meth c γ Q h k j pc L (v :: .ref a :: st) := by
  intro H locs ls hh hS0 hlo
  obtain ⟨C, ref, T, N, t0, hc, hin, hk, hlink, hsame, hty, hnm, hfin, -, hd⟩ := F
  have hts := X.2.2.2.2.1
  have hown := X.2.2.2.1
  have hK := X.2.2.2.2.2.2.2.1.1
  have hap := va_apart (own := y.cls) hts hin t0 hty hnm hK hc
  obtain ⟨r, h1, cell, q1, q2, q3, q4⟩ := (hh.2.2 a _ hr).1
  have hr2 : r = (C, T, N) := Option.some.inj (h1.symm.trans hc)
  subst hr2
  obtain ⟨hS, hfc, kC, hkC, hkind⟩ := hK.1 ci _ hc
  obtain ⟨cf, kf', fi, f, hi, hsl⟩ := hS kf hk
  have hlay := hts _ (hin _ (u_in_lay hk))
  unfold u_lay at hlay
  rw [if_neg (by rw [hfin]; decide)] at hlay
  have hst := (u_facts hfc hkC (u_lays hts hin hk) hi).1
  have h6 := u_store hfc hkC hkind hlay hi hd hn hfit
  have hi2 : s.fieldFound? ref (T kf).2.1 (T kf).2.2.1 = some (cf, kf', fi, f) := hsame.elim (fun z => by rw [z]; exact hi) (fun z => u_same (hts _ z) _ hi)
  refine W.putK X.1 X.2.1 (f := f) ⟨hown, hts _ hlink, ⟨_, _, _, hi2⟩, hst⟩ (by rw [q2]; exact h6) q1 q3 (by rw [hsl]; exact k2_hasslot (q4 kf hk)) rfl rfl d fun H' e1 e2 e3 => ?_
  rw [hsl] at e1 ⊢
  exact kk H' _ ls (hOK_set hh hr e2 e3 ⟨_, hc, t_OB.to (V := updV (vp_V fs) kf v) ⟨_, e1, q2, q3, t_set q4 hap hk v⟩ (fun j _ => vp_updV_set hl v j)⟩) (hS0.put e2 e3 (hh.2.2 a _ hr).2) hlo
theorem v_putF (X : Cx p s m args meth c γ y cc nL ret) {index ci kf a : Nat} {fs : List Value} {v : Value} {ty : FieldType} (F : FP y.cls index ci kf true ty) (hin2 : y.name = "<init>") (hr : h.1 a = some (.inr (ci, fs))) (hn : narrow ty v = v) (hfit : fits ty v = true) (hl : kf < fs.length) (d : decode cc pc = .ok (.putfield index, 3)) (kk : V p l e R s m args below meth c γ Q (hset h a (.inr (ci, fs.set kf v))) k j (pc + 3) L st) : V p l e R s m args below meth c γ Q h k j pc L (v :: .ref a :: st) := by
  intro H locs ls hh hS0 hlo
  obtain ⟨C, ref, T, N, t0, hc, hin, hk, hlink, hsame, hty, hnm, hfin, hdecl, hd⟩ := F
  have hts := X.2.2.2.2.1
  have hown := X.2.2.2.1
  have hK := X.2.2.2.2.2.2.2.1.1
  have hap := va_apart (own := y.cls) hts hin t0 hty hnm hK hc
  obtain ⟨r, h1, cell, q1, q2, q3, q4⟩ := (hh.2.2 a _ hr).1
  have hr2 : r = (C, T, N) := Option.some.inj (h1.symm.trans hc)
  subst hr2
  obtain ⟨hS, hfc, kC, hkC, hkind⟩ := hK.1 ci _ hc
  obtain ⟨cf, kf', fi, f, hi, hsl⟩ := hS kf hk
  have hlay := hts _ (hin _ (u_in_lay hk))
  unfold u_lay at hlay
  rw [if_pos hfin] at hlay
  have hst := (u_facts hfc hkC (u_lays hts hin hk) hi).1
  have hcf : m.cls = cf := by
    obtain ⟨_, _, c', _, _, _, -, -, hf', -, -, -, hown2, -⟩ := Cond.laysFinal_spec hlay
    have e1 : c' = cf := by have := hi.symm.trans hf'; simp at this; exact this.1.symm
    rw [hdecl rfl] at hown2
    rw [← e1]; exact Option.some.inj (hown.symm.trans hown2)
  have h6 := u_fits hfc hkC hkind (Or.inr hlay) hi hd hn hfit
  have hi2 : s.fieldFound? ref (T kf).2.1 (T kf).2.2.1 = some (cf, kf', fi, f) := hsame.elim (fun z => by rw [z]; exact hi) (fun z => u_same (hts _ z) _ hi)
  refine W.putFinK X.1 X.2.1 hown (hts _ hlink) hi2 hst hcf (X.2.2.2.2.2.2.2.2 hin2) (by rw [q2]; exact h6) q1 q3 (by rw [hsl]; exact k2_hasslot (q4 kf hk)) rfl rfl d fun H' e1 e2 e3 => ?_
  rw [hsl] at e1 ⊢
  exact kk H' _ ls (hOK_set hh hr e2 e3 ⟨_, hc, t_OB.to (V := updV (vp_V fs) kf v) ⟨_, e1, q2, q3, t_set q4 hap hk v⟩ (fun j _ => vp_updV_set hl v j)⟩) (hS0.put e2 e3 (hh.2.2 a _ hr).2) hlo
theorem v_iald (X : Cx p s m args meth c γ y cc nL ret) {a n : Nat} {f : Nat → Int32} {x : Int32} (hr : h.1 a = some (.inl (γ.2.2.1 0, n, .inl f))) (i : Nat) (hx : x = nI i) (hi : i < n) (hn : n < 2 ^ 31) (d : decode cc pc = .ok (.iaload, 1)) (kk : V p l e R s m args below meth c γ Q h k j (pc + 1) L (.int (f i) :: st)) : V p l e R s m args below meth c γ Q h k j pc L (.int x :: .ref a :: st) := by
  intro H locs ls hh hS hl
  subst hx
  refine va_iald X.1 X.2.1 X.2.2.2.2.2.2.2.1.1 (at_of hh hr) 0 0 rfl rfl (vp_in_nI hi hn) d ?_
  rw [nI_clamp (Nat.lt_trans hi hn)]
  exact kk H locs ls hh hS hl
theorem v_iast (X : Cx p s m args meth c γ y cc nL ret) {a n : Nat} {f : Nat → Int32} {x z : Int32} (hr : h.1 a = some (.inl (γ.2.2.1 0, n, .inl f))) (i : Nat) (hx : x = nI i) (hi : i < n) (hn : n < 2 ^ 31) (d : decode cc pc = .ok (.iastore, 1)) (kk : V p l e R s m args below meth c γ Q (hset h a (.inl (γ.2.2.1 0, n, .inl (upd f i z)))) k j (pc + 1) L st) : V p l e R s m args below meth c γ Q h k j pc L (.int z :: .int x :: .ref a :: st) := by
  intro H locs ls hh hS hl
  subst hx
  have hp := (hh.2.2 a _ hr).1
  refine W.iast X.1 X.2.1 (cell := vp_cell (γ.2.2.1 0) (n, .inl f)) hp ((X.2.2.2.2.2.2.2.1.1.2 0 _ rfl).1 n (fun j => .int (f j))) (fun q => by cases q) (by show ¬ (nI i < 0 ∨ (arrV _ _ _).slots.size ≤ _); rw [arrV_size]; exact vp_in_nI hi hn) rfl rfl d fun H1 e1 e2 e3 => ?_
  refine kk H1 _ ls (hOK_set hh hr e2 e3 ?_) (hS.put e2 e3 (hh.2.2 a _ hr).2) hl
  show H1[a]? = some (vp_cell _ _)
  rw [e1, nI_clamp (Nat.lt_trans hi hn), vp_cell_i, vp_cell_i, arrV_store]
  congr 2
  funext q
  by_cases hq : q = i
  · subst hq; simp [updV, upd]
  · simp [updV, upd, hq]
theorem v_alen (X : Cx p s m args meth c γ y cc nL ret) {a t0 : Nat} {z : vp_A} {cA : ClassId} {ty : FieldType} (hr : h.1 a = some (.inl (cA, z))) (ht : (tyl γ)[t0]? = some (cA, ty)) (d : decode cc pc = .ok (.arraylength, 1)) (kk : V p l e R s m args below meth c γ Q h k j (pc + 1) L (.int (nI z.1) :: st)) : V p l e R s m args below meth c γ Q h k j pc L (.ref a :: st) := fun H locs ls hh hS hl =>
  va_alen X.1 X.2.1 X.2.2.2.2.2.2.2.1.1 (at_of hh hr) 0 t0 rfl ht rfl d (kk H locs ls hh hS hl)
theorem v_aald (X : Cx p s m args meth c γ y cc nL ret) {a t0 n b : Nat} {f : Nat → Option Nat} {cA : ClassId} {C : String} {x : Int32} (hr : h.1 a = some (.inl (cA, n, .inr (.inr (.inr (.inr f)))))) (ht : (tyl γ)[t0]? = some (cA, .object C)) (i : Nat) (hx : x = nI i) (hi : i < n) (hn : n < 2 ^ 31) (hb : f i = some b) (d : decode cc pc = .ok (.aaload, 1)) (kk : V p l e R s m args below meth c γ Q h k j (pc + 1) L (.ref b :: st)) : V p l e R s m args below meth c γ Q h k j pc L (.int x :: .ref a :: st) := by
  intro H locs ls hh hS hl
  subst hx
  refine va_aldq X.1 X.2.1 X.2.2.2.2.2.2.2.1.1 (at_of hh hr) 0 t0 rfl ht (vp_in_nI hi hn) d ?_
  rw [nI_clamp (Nat.lt_trans hi hn), hb]
  exact kk H locs ls hh hS hl
theorem v_aast (X : Cx p s m args meth c γ y cc nL ret) {a t0 n v ci : Nat} {f : Nat → Option Nat} {cA : ClassId} {E : String} {r : vw_C} {fs : List Value} {x : Int32} (hr : h.1 a = some (.inl (cA, n, .inr (.inr (.inr (.inr f)))))) (ht : (tyl γ)[t0]? = some (cA, .object E)) (hv : h.1 v = some (.inr (ci, fs))) (hci : vwCl[ci]? = some r) (hE : r.1 = E ∨ va_Nw (.castable r.1 E) s) (i : Nat) (hx : x = nI i) (hi : i < n) (hn : n < 2 ^ 31) (d : decode cc pc = .ok (.aastore, 1)) (kk : V p l e R s m args below meth c γ Q (hset h a (.inl (cA, n, .inr (.inr (.inr (.inr (va_up f i (some v)))))))) k j (pc + 1) L st) : V p l e R s m args below meth c γ Q h k j pc L (.ref v :: .int x :: .ref a :: st) := by
  intro H locs ls hh hS hl
  subst hx
  have hp := (hh.2.2 a _ hr).1
  have hK := X.2.2.2.2.2.2.2.1.1
  obtain ⟨cellV, g1, g2, g3⟩ := va_recv hK (at_of hh hv) (ci := ci) (q0 := 0) hci rfl
  obtain ⟨kC, hkC, -⟩ := Vm.findClass_spec g3
  obtain ⟨kA, comp, k1, k2, k3, -⟩ := (hK.2 t0 _ ht).2
  obtain ⟨kE, hkE, -⟩ := Vm.findClass_spec k3
  have hasg : s.vm.assignable cellV.cls comp = true := by
    rcases hE with z | z
    · have : comp = cellV.cls := by rw [← z] at k3; exact Option.some.inj (k3.symm.trans g3)
      rw [this]
      exact va_asg _ _
    · obtain ⟨c0, t1, f1, f2, f3⟩ := Cond.castable_spec (va_Nw.use (A := args) rfl z)
      cases g3.symm.trans f1
      cases k3.symm.trans f2
      exact f3
  refine W.aast X.1 X.2.1 (cell := vp_cell cA (n, .inr (.inr (.inr (.inr f))))) hp (fun q z => by cases z) (fun z => by cases z) k1 k2 rfl hkE ⟨fun q => (vp_in_nI hi hn) (Or.inl q), by show _ < (arrV _ _ _).slots.size; rw [arrV_size, nI_clamp (Nat.lt_trans hi hn)]; exact hi⟩ g1 (fun q z => by rw [z] at g2; cases g2) hkC hasg rfl rfl d fun H1 e1 e2 e3 => ?_
  refine kk H1 _ ls (hOK_set hh hr e2 e3 ?_) (hS.put e2 e3 (hh.2.2 a _ hr).2) hl
  show H1[a]? = some (vp_cell _ _)
  rw [e1, nI_clamp (Nat.lt_trans hi hn), vp_cell_q, vp_cell_q, arrV_store]
  congr 2
  funext q
  by_cases hq : q = i
  · subst hq; simp [updV, va_up, va_rf]
  · simp [updV, va_up, hq]
theorem v_aastN (X : Cx p s m args meth c γ y cc nL ret) {a t0 n : Nat} {f : Nat → Option Nat} {cA : ClassId} {E : String} {x : Int32} (hr : h.1 a = some (.inl (cA, n, .inr (.inr (.inr (.inr f)))))) (ht : (tyl γ)[t0]? = some (cA, .object E)) (i : Nat) (hx : x = nI i) (hi : i < n) (hn : n < 2 ^ 31) (d : decode cc pc = .ok (.aastore, 1)) (kk : V p l e R s m args below meth c γ Q (hset h a (.inl (cA, n, .inr (.inr (.inr (.inr (va_up f i none))))))) k j (pc + 1) L st) : V p l e R s m args below meth c γ Q h k j pc L (.null :: .int x :: .ref a :: st) := by
  intro H locs ls hh hS hl
  subst hx
  have hp := (hh.2.2 a _ hr).1
  refine va_WaastN (C := E) X.1 X.2.1 (cell := vp_cell cA (n, .inr (.inr (.inr (.inr f))))) hp ((X.2.2.2.2.2.2.2.1.1.2 t0 _ ht).1 n (fun j => va_rf (f j))) (fun z => by cases z) (by show ¬ (nI i < 0 ∨ (arrV _ _ _).slots.size ≤ _); rw [arrV_size]; exact vp_in_nI hi hn) rfl rfl d fun H1 e1 e2 e3 => ?_
  refine kk H1 _ ls (hOK_set hh hr e2 e3 ?_) (hS.put e2 e3 (hh.2.2 a _ hr).2) hl
  show H1[a]? = some (vp_cell _ _)
  rw [e1, nI_clamp (Nat.lt_trans hi hn), vp_cell_q, vp_cell_q, arrV_store]
  congr 2
  funext q
  by_cases hq : q = i
  · subst hq; simp [updV, va_up, va_rf]
  · simp [updV, va_up, hq]
theorem v_new (X : Cx p s m args meth c γ y cc nL ret) {index ci n : Nat} {fs : List Value} (F : ND y.cls index ci n fs) (hk : k + 1 ≤ R.cells) (hj : j + n ≤ R.slots) (d : decode cc pc = .ok (.new index, 3)) (kk : V p l e R s m args below meth c γ Q (hnew h (.inr (ci, fs))) (k + 1) (j + n) (pc + 3) L (.ref h.2 :: st)) : V p l e R s m args below meth c γ Q h k j pc L st := by
  intro H locs ls hh hS hl
  obtain ⟨C, T, t0, hc, hin, hty, hcl, hins, hini, hfs⟩ := F
  have hts := X.2.2.2.2.1
  have hKn := X.2.2.2.2.2.2.2.1.1.1 ci _ hc
  refine W.newcK X.1 X.2.1 X.2.2.2.1 (hts _ hcl) (hts _ hins) (hts _ hini) rfl d hk hj hKn.2.1 rfl fun H1 kC hkC e1 z1 o1 => ?_
  have hw := kk H1 locs ls (hOK_new hh z1 o1 ⟨_, hc, (u_born t0 hts hin hKn hkC e1 hty).to hfs⟩) (hS.new (by omega) o1) hl
  rw [← hh.1] at hw
  exact hw
theorem v_newarr (X : Cx p s m args meth c γ y cc nL ret) {x : Int32} (n : Nat) (hx : x = nI n) (hn : n < 100000) (hw : Cond.arrayClass .int ∈ tb) (hk : k + 1 ≤ R.cells) (hj : j + n ≤ R.slots) (d : decode cc pc = .ok (.newarray .int, 2)) (kk : V p l e R s m args below meth c γ Q (hnew h (.inl (γ.2.2.1 0, n, .inl (fun _ => 0)))) (k + 1) (j + n) (pc + 2) L (.ref h.2 :: st)) : V p l e R s m args below meth c γ Q h k j pc L (.int x :: st) := by
  intro H locs ls hh hS hl
  subst hx
  have hc : (nI n).toNatClampNeg = n := nI_clamp (by omega)
  refine va_newaK (atype := .int) (h := H.size) X.1 X.2.1 (X.2.2.2.2.1 _ hw) rfl d rfl (nI_pos (by omega)) hc (by show n * 4 ≤ _; omega) hk hj rfl fun H1 cA e1 z1 o1 hAr hNm => ?_
  have hra := (X.2.2.2.2.2.2.2.1.1.2 0 _ rfl).2
  have hcA : cA = γ.2.2.1 0 := Option.some.inj (hNm.symm.trans hra)
  subst hcA
  have hw := kk H1 locs ls (hOK_new hh z1 o1 e1) (hS.new (by omega) o1) hl
  rw [← hh.1] at hw
  exact hw
theorem v_anew (X : Cx p s m args meth c γ y cc nL ret) {index t0 : Nat} {cA : ClassId} {C : String} {x : Int32} (n : Nat) (hx : x = nI n) (hn : n < 100000) (hcl : Cond.classLink y.cls index C ∈ tb) (hov : va_AO C s) (ht : (tyl γ)[t0]? = some (cA, .object C)) (hk : k + 1 ≤ R.cells) (hj : j + n ≤ R.slots) (d : decode cc pc = .ok (.anewarray index, 3)) (kk : V p l e R s m args below meth c γ Q (hnew h (.inl (cA, n, .inr (.inr (.inr (.inr (fun _ => none))))))) (k + 1) (j + n) (pc + 3) L (.ref h.2 :: st)) : V p l e R s m args below meth c γ Q h k j pc L (.int x :: st) := by
  intro H locs ls hh hS hl
  subst hx
  have hc : (nI n).toNatClampNeg = n := nI_clamp (by omega)
  refine W.anew X.1 X.2.1 X.2.2.2.1 (X.2.2.2.2.1 _ hcl) (va_AO.use hov) rfl d rfl (nI_pos (by omega)) (by rw [hc]; omega) hk (by rw [hc]; exact hj) fun cB kB comp f1 f2 f3 f4 => ?_
  obtain ⟨kA, comp2, k1, k2, k3, k4⟩ := (X.2.2.2.2.2.2.2.1.1.2 t0 _ ht).2
  have hcA : cB = cA := Option.some.inj (f1.symm.trans k4)
  subst hcA
  rw [hc]
  generalize hH1 : H.push ({ cls := cB, slots := Array.replicate n .null, vm := .none } : Cell) = H1
  have z1 : H1.size = H.size + 1 := by rw [← hH1, Array.size_push]
  have e1 : H1[H.size]? = some (arrV cB n (fun _ => .null)) := by rw [← hH1, Array.getElem?_push_size, ← arrV_new]
  have o1 : ∀ q : Nat, q < H.size → H1[q]? = H[q]? := fun q hq => by rw [← hH1, Array.getElem?_push, if_neg (Nat.ne_of_lt hq)]
  have hw := kk H1 locs ls (hOK_new hh z1 o1 e1) (hS.new (by omega) o1) hl
  rw [← hh.1] at hw
  exact hw
theorem v_castS (X : Cx p s m args meth c γ y cc nL ret) {index ci a : Nat} {r : vw_C} {fs : List Value} (hcl : Cond.classLink y.cls index r.1 ∈ tb) (hci : vwCl[ci]? = some r) (hr : h.1 a = some (.inr (ci, fs))) (d : decode cc pc = .ok (.checkcast index, 3)) (kk : V p l e R s m args below meth c γ Q h k j (pc + 3) L (.ref a :: st)) : V p l e R s m args below meth c γ Q h k j pc L (.ref a :: st) := fun H locs ls hh hS hl =>
  va_castE X.1 X.2.1 X.2.2.2.1 (X.2.2.2.2.1 _ hcl) (va_recv X.2.2.2.2.2.2.2.1.1 (at_of hh hr) (q0 := 0) hci rfl) d (kk H locs ls hh hS hl)
theorem v_mmax (X : Cx p s m args meth c γ y cc nL ret) {index : Nat} {x z : Int32} (hw : Cond.methodLink y.cls index Lib.Math.max.name ∈ tb ∧ Cond.static Lib.Math.max.name ∈ tb ∧ Cond.initialized "java/lang/Math" ∈ tb ∧ Cond.code Lib.Math.max.name Lib.Math.max.code 2 (some .int) ∈ tb) (hf : 1 ≤ R.frames) (hlo : (st.map fun v => v.category).sum + 13 ≤ R.locals) (hk : k ≤ R.cells) (hj : j ≤ R.slots) (hnL : L.length = nL) (d : decode cc pc = .ok (.invokestatic index, 3)) (kk : V p l e R s m args below meth c γ Q h k j (pc + 3) L (.int (if x < z then z else x) :: st)) : V p l e R s m args below meth c γ Q h k j pc L (.int z :: .int x :: st) := fun H locs ls hh hS hl =>
  va_mmax X.1 X.2.1 (by rw [X.2.2.1, ← hnL, hl.1]) X.2.2.2.1 (X.2.2.2.2.1 _ hw.1) (X.2.2.2.2.1 _ hw.2.1) (X.2.2.2.2.1 _ hw.2.2.1) (X.2.2.2.2.1 _ hw.2.2.2) hf hlo hk hj d (kk H locs ls hh hS hl)
theorem v_mmin (X : Cx p s m args meth c γ y cc nL ret) {index : Nat} {x z : Int32} (hw : Cond.methodLink y.cls index Lib.Math.min.name ∈ tb ∧ Cond.static Lib.Math.min.name ∈ tb ∧ Cond.initialized "java/lang/Math" ∈ tb ∧ Cond.code Lib.Math.min.name Lib.Math.min.code 2 (some .int) ∈ tb) (hf : 1 ≤ R.frames) (hlo : (st.map fun v => v.category).sum + 13 ≤ R.locals) (hk : k ≤ R.cells) (hj : j ≤ R.slots) (hnL : L.length = nL) (d : decode cc pc = .ok (.invokestatic index, 3)) (kk : V p l e R s m args below meth c γ Q h k j (pc + 3) L (.int (if z < x then z else x) :: st)) : V p l e R s m args below meth c γ Q h k j pc L (.int z :: .int x :: st) := fun H locs ls hh hS hl =>
  va_mmin X.1 X.2.1 (by rw [X.2.2.1, ← hnL, hl.1]) X.2.2.2.1 (X.2.2.2.2.1 _ hw.1) (X.2.2.2.2.1 _ hw.2.1) (X.2.2.2.2.1 _ hw.2.2.1) (X.2.2.2.2.1 _ hw.2.2.2) hf hlo hk hj d (kk H locs ls hh hS hl)
theorem v_mabs (X : Cx p s m args meth c γ y cc nL ret) {index : Nat} {x : Int32} (hw : Cond.methodLink y.cls index Lib.Math.abs.name ∈ tb ∧ Cond.static Lib.Math.abs.name ∈ tb ∧ Cond.initialized "java/lang/Math" ∈ tb ∧ Cond.code Lib.Math.abs.name Lib.Math.abs.code 1 (some .int) ∈ tb) (hf : 1 ≤ R.frames) (hlo : (st.map fun v => v.category).sum + 13 ≤ R.locals) (hk : k ≤ R.cells) (hj : j ≤ R.slots) (hnL : L.length = nL) (d : decode cc pc = .ok (.invokestatic index, 3)) (kk : V p l e R s m args below meth c γ Q h k j (pc + 3) L (.int (if 0 ≤ x then x else 0 - x) :: st)) : V p l e R s m args below meth c γ Q h k j pc L (.int x :: st) := fun H locs ls hh hS hl =>
  va_mabs X.1 X.2.1 (by rw [X.2.2.1, ← hnL, hl.1]) X.2.2.2.1 (X.2.2.2.2.1 _ hw.1) (X.2.2.2.2.1 _ hw.2.1) (X.2.2.2.2.1 _ hw.2.2.1) (X.2.2.2.2.1 _ hw.2.2.2) hf hlo hk hj d (kk H locs ls hh hS hl)
theorem v_objInit (X : Cx p s m args meth c γ y cc nL ret) {index a : Nat} (hw : Cond.methodLink y.cls index objectInit ∈ tb ∧ Cond.instanceMethod objectInit ∈ tb ∧ Cond.code objectInit ⟨#[0xb1]⟩ 1 none ∈ tb) (hf : 1 ≤ R.frames) (hlo : (st.map fun v => v.category).sum + 12 ≤ R.locals) (hnL : L.length = nL) (d : decode cc pc = .ok (.invokespecial index, 3)) (kk : V p l e R s m args below meth c γ Q h k j (pc + 3) L st) : V p l e R s m args below meth c γ Q h k j pc L (.ref a :: st) := fun H locs ls hh hS hl =>
  W.objInit X.1 X.2.1 X.2.2.2.1 (X.2.2.2.2.1 _ hw.1) (X.2.2.2.2.1 _ hw.2.1) (X.2.2.2.2.1 _ hw.2.2) (g := F0 m pc ls (.ref a :: st)) rfl (by show ls.size = _; rw [X.2.2.1, ← hnL, hl.1]) rfl d hf (by show 2 * 0 + _ + 12 ≤ _; omega) (kk H locs ls hh hS hl)
theorem v_gets (X : Cx p s m args meth c γ y cc nL ret) {index : Nat} {C n dd : String} {v : Value} (hZ : va_Z C n dd v (Ag γ) s s.heap) (hl1 : Cond.fieldLink y.cls index C n dd ∈ tb) (d : decode cc pc = .ok (.getstatic index, 3)) (kk : V p l e R s m args below meth c γ Q h k j (pc + 3) L (v :: st)) : V p l e R s m args below meth c γ Q h k j pc L st := fun H locs ls hh hS hl =>
  va_gets X.1 X.2.1 hZ hS X.2.2.2.1 (X.2.2.2.2.1 _ hl1) (fun _ z => z) d (kk H locs ls hh hS hl)
theorem v_tald (X : Cx p s m args meth c γ y cc nL ret) {t N : Nat} {f : Nat → Value} {x : Int32} {v : Value} (hT : va_T .int t N f (Ag γ) s s.heap) (i : Nat) (hx : x = nI i) (hi : i < N) (hn : N < 2 ^ 31) (hv : f i = v) (d : decode cc pc = .ok (.iaload, 1)) (kk : V p l e R s m args below meth c γ Q h k j (pc + 1) L (v :: st)) : V p l e R s m args below meth c γ Q h k j pc L (.int x :: .ref t :: st) := fun H locs ls hh hS hl =>
  va_ti X.1 X.2.1 hT hS (by rw [hx]; exact vp_in_nI hi hn) (by rw [hx, nI_clamp (Nat.lt_trans hi hn)]; exact hv) d (kk H locs ls hh hS hl)
theorem v_tbald (X : Cx p s m args meth c γ y cc nL ret) {t N : Nat} {f : Nat → Value} {x : Int32} {v : Value} (hT : va_T .byte t N f (Ag γ) s s.heap) (i : Nat) (hx : x = nI i) (hi : i < N) (hn : N < 2 ^ 31) (hv : f i = v) (d : decode cc pc = .ok (.baload, 1)) (kk : V p l e R s m args below meth c γ Q h k j (pc + 1) L (v :: st)) : V p l e R s m args below meth c γ Q h k j pc L (.int x :: .ref t :: st) := fun H locs ls hh hS hl =>
  va_tb X.1 X.2.1 hT hS (by rw [hx]; exact vp_in_nI hi hn) (by rw [hx, nI_clamp (Nat.lt_trans hi hn)]; exact hv) d (kk H locs ls hh hS hl)
theorem v_tlen (X : Cx p s m args meth c γ y cc nL ret) {t N : Nat} {f : Nat → Value} {ty : FieldType} (hT : va_T ty t N f (Ag γ) s s.heap) (d : decode cc pc = .ok (.arraylength, 1)) (kk : V p l e R s m args below meth c γ Q h k j (pc + 1) L (.int (nI N) :: st)) : V p l e R s m args below meth c γ Q h k j pc L (.ref t :: st) := fun H locs ls hh hS hl =>
  va_tlen X.1 X.2.1 hT hS rfl d (kk H locs ls hh hS hl)
theorem v_ldcS (X : Cx p s m args meth c γ y cc nL ret) {tx : String} {index q : Nat} (hZ : vk_R y.cls index tx q s) (d : decode cc pc = .ok (.ldc index, 2)) (kk : V p l e R s m args below meth c γ Q h k j (pc + 2) L (.ref q :: st)) : V p l e R s m args below meth c γ Q h k j pc L st := fun H locs ls hh hS hl =>
  va_ldcS X.1 X.2.1 X.2.2.2.1 hZ d (kk H locs ls hh hS hl)
theorem v_ldc2 (X : Cx p s m args meth c γ y cc nL ret) {index : Nat} {v : Int64} (hw : Cond.constantLong y.cls index v ∈ tb) (d : decode cc pc = .ok (.ldc2_w index, 3)) (kk : V p l e R s m args below meth c γ Q h k j (pc + 3) L (.long v :: st)) : V p l e R s m args below meth c γ Q h k j pc L st := fun H locs ls hh hS hl =>
  lv_ldc2 X.1 X.2.1 X.2.2.2.1 (X.2.2.2.2.1 _ hw) d (kk H locs ls hh hS hl)
theorem v_ldcI (X : Cx p s m args meth c γ y cc nL ret) {index : Nat} {v : Int32} (hw : Cond.constant y.cls index v ∈ tb) (d : decode cc pc = .ok (.ldc index, 2)) (kk : V p l e R s m args below meth c γ Q h k j (pc + 2) L (.int v :: st)) : V p l e R s m args below meth c γ Q h k j pc L st := fun H locs ls hh hS hl =>
  lv_ldc X.1 X.2.1 X.2.2.2.1 (X.2.2.2.2.1 _ hw) d (kk H locs ls hh hS hl)

/-- what a contract says of a method's end -/
def Qof (γ : Gm) (Post : Option Value → HP → Prop) : Array Value → State → Outcome → State → Prop := fun _ st o t => (∃ (v : Option Value) (h' : HP), o = .returned v ∧ Post v h' ∧ hOK γ h' t.heap) ∧ va_F (Ag γ) st t
theorem v_iret (X : Cx p s m args meth c γ y cc nL ret) {Post : Option Value → HP → Prop} {v : Int32} {mc ms : Nat} (hr : ret = some .int) (hk : k ≤ mc) (hj : j ≤ ms) (d : decode cc pc = .ok (.ireturn, 1)) (hP : Post (some (.int v)) h) : V p l e R s m args below meth c γ (MQ below (Qof γ Post) args s mc ms (Ag γ)) h k j pc L [.int v] := fun H locs ls hh hS hl =>
  W.widen hk hj (W.iret X.1 X.2.1 (X.2.2.2.2.2.1.trans hr) (fun t ht _ => ⟨⟨_, h, rfl, hP, by rw [ht]; exact hh⟩, hS.F ht⟩) hS.2.2 d X.2.2.2.2.2.2.1)
theorem v_zret (X : Cx p s m args meth c γ y cc nL ret) {Post : Option Value → HP → Prop} {v : Int32} {mc ms : Nat} {ty : FieldType} (hr : ret = some ty) (hn : narrow ty (.int v) = .int v) (hk : k ≤ mc) (hj : j ≤ ms) (d : decode cc pc = .ok (.ireturn, 1)) (hP : Post (some (.int v)) h) : V p l e R s m args below meth c γ (MQ below (Qof γ Post) args s mc ms (Ag γ)) h k j pc L [.int v] := fun H locs ls hh hS hl =>
  W.widen hk hj (W.zret X.1 X.2.1 (X.2.2.2.2.2.1.trans hr) hn (fun t ht _ => ⟨⟨_, h, rfl, hP, by rw [ht]; exact hh⟩, hS.F ht⟩) hS.2.2 d X.2.2.2.2.2.2.1)
theorem v_vret (X : Cx p s m args meth c γ y cc nL ret) {Post : Option Value → HP → Prop} {mc ms : Nat} (hr : ret = none) (hk : k ≤ mc) (hj : j ≤ ms) (d : decode cc pc = .ok (.return_, 1)) (hP : Post none h) : V p l e R s m args below meth c γ (MQ below (Qof γ Post) args s mc ms (Ag γ)) h k j pc L [] := fun H locs ls hh hS hl =>
  W.widen hk hj (W.vret X.1 X.2.1 (X.2.2.2.2.2.1.trans hr) (fun t ht _ => ⟨⟨_, h, rfl, hP, by rw [ht]; exact hh⟩, hS.F ht⟩) hS.2.2 d X.2.2.2.2.2.2.1)
theorem v_lret (X : Cx p s m args meth c γ y cc nL ret) {Post : Option Value → HP → Prop} {v : Int64} {mc ms : Nat} (hr : ret = some .long) (hk : k ≤ mc) (hj : j ≤ ms) (d : decode cc pc = .ok (.lreturn, 1)) (hP : Post (some (.long v)) h) : V p l e R s m args below meth c γ (MQ below (Qof γ Post) args s mc ms (Ag γ)) h k j pc L [.long v] := fun H locs ls hh hS hl =>
  W.widen hk hj (W.lret X.1 X.2.1 (X.2.2.2.2.2.1.trans hr) (fun t ht _ => ⟨⟨_, h, rfl, hP, by rw [ht]; exact hh⟩, hS.F ht⟩) hS.2.2 d X.2.2.2.2.2.2.1)
theorem v_aret (X : Cx p s m args meth c γ y cc nL ret) {Post : Option Value → HP → Prop} {v : Nat} {mc ms : Nat} {rt : FieldType} (hr : ret = some rt) (hrt : (∃ n, rt = .object n) ∨ ∃ t, rt = .array t) (hk : k ≤ mc) (hj : j ≤ ms) (d : decode cc pc = .ok (.areturn, 1)) (hP : Post (some (.ref v)) h) : V p l e R s m args below meth c γ (MQ below (Qof γ Post) args s mc ms (Ag γ)) h k j pc L [.ref v] := fun H locs ls hh hS hl =>
  W.widen hk hj (W.aret X.1 X.2.1 (X.2.2.2.2.2.1.trans hr) hrt (Or.inr ⟨v, rfl⟩) (fun t ht _ => ⟨⟨_, h, rfl, hP, by rw [ht]; exact hh⟩, hS.F ht⟩) hS.2.2 d X.2.2.2.2.2.2.1)
/-- THE CONTRACT: from any state over a heap of the picture h, the method y at the arguments av returns v over the picture h', with Post v h' -/
def Cr (l : Launch) (γ : Gm) (y : MethodName) (cc : ByteArray) (maxL : Nat) (ret : Option FieldType) (fr lc mc ms : Nat) (av : List Value) (h : HP) (Post : Option Value → HP → Prop) : Prop :=
  Met l y (.code y cc maxL ret :: tb) { frames := fr, cells := mc, slots := ms, locals := lc } (va_Pc av (fun U => EnvG γ U ∧ hOK γ h U.heap)) (Qof γ Post) mc ms (Ag γ)
def lo0 (n : Nat) (av : List Value) : List (Option Value) := (List.range n).map (fun i => ((lv_args 0 av).find? (fun q => q.1 == i)).map (fun q => q.2))
theorem lo_entry {av : List Value} {n : Nat} (hn : (lg_sl av).length ≤ n) : lo ((lg_sl av ++ List.replicate (n - (lg_sl av).length) Slot.unset).toArray) (lo0 n av) := by
  have he := lv_entry av hn
  refine ⟨by rw [he.1]; simp [lo0], he.2.1, fun i v hv => ?_⟩
  unfold lo0 at hv
  rw [List.getElem?_map] at hv
  cases hr : (List.range n)[i]? with
  | none => rw [hr] at hv; cases hv
  | some a =>
    rw [hr] at hv
    have ha : a = i := by
      have := List.getElem?_eq_some_iff.mp hr
      obtain ⟨h1, h2⟩ := this
      rw [List.getElem_range] at h2
      exact h2.symm
    subst ha
    simp only [Option.map_some] at hv
    cases hf : (lv_args 0 av).find? (fun q => q.1 == a) with
    | none => rw [hf] at hv; cases hv
    | some q =>
      rw [hf] at hv
      cases hv
      have h1 := List.mem_of_find?_eq_some hf
      have h2 := List.find?_some hf
      rw [beq_iff_eq] at h2
      rw [← h2]
      exact he.2.2 q h1
end VR
theorem Cr_of {l : Launch} {γ : Gm} {y : MethodName} {cc : ByteArray} {maxL : Nat} {ret : Option FieldType} {fr lc mc ms : Nat} {av : List Value} {h : HP} {Post : Option Value → HP → Prop} (L0 : List (Option Value)) (hy : plainFor y = true) (hn : (lg_sl av).length ≤ maxL) (hL : lo0 maxL av = L0)
    (body : ∀ (p : Program) (e : Env) (s : State) (m : MethodId) (args : Array Value) (below : List Frame) (meth : Method) (c : Code), Cx p s m args meth c γ y cc maxL ret → V p l e { frames := fr, cells := mc, slots := ms, locals := lc } s m args below meth c γ (MQ below (Qof γ Post) args s mc ms (Ag γ)) h 0 0 0 L0 []) : Cr l γ y cc maxL ret fr lc mc ms av h Post := by
  refine va_MetF (cc := cc) (maxL := maxL) (ret := ret) hy rfl ?_
  intro p e s m args below meth c s₁ B hml hv
  obtain ⟨rfl, hE, hh⟩ := hv
  have hts := atoms_spec (ws := .code y cc maxL ret :: tb) B.pre
  have X : Cx p s m av.toArray meth c γ y cc maxL ret := ⟨B.exec, B.bytes, hml, findClass_of_methodNamed B.named, fun w hw => hts w (List.mem_cons_of_mem _ hw), B.returns, B.notSynchronized, hE, fun q => by rw [← q]; exact (name_of_methodNamed B.named B.method).1⟩
  rw [lg_entry_eq]
  exact body p e s m av.toArray below meth c X s.heap [] _ hh va_S.rf (hL ▸ lo_entry hn)
section VCALL
variable {p : Program} {l : Launch} {e : Env} {R : Room} {s : State} {m : MethodId} {args : Array Value} {below : List Frame} {meth : Method} {c : Code} {γ : Gm} {Q : State → Prop} {y : MethodName} {cc : ByteArray} {nL : Nat} {ret : Option FieldType} {h : HP} {k j pc : Nat} {L : List (Option Value)} {st : List Value}
variable {y2 : MethodName} {cc2 : ByteArray} {maxL2 fr lc mc ms n : Nat} {ret2 : Option FieldType} {Post : Option Value → HP → Prop} {index : Nat}
theorem pre_blind {av : List Value} : FrameBlind (va_Pc av (fun U => EnvG γ U ∧ hOK γ h U.heap)) := fun a U g mk q => ⟨q.1, EnvG.blind a U g mk q.2.1, q.2.2⟩
theorem v_back {H : Heap} {locs : List Loc} {ls : Array Slot} {st0 : List Value} {a : Array Value} (hE : EnvG γ s) (hS : va_S (Ag γ) s.heap H locs) (hl : lo ls L) (hr : va_Run p l e R s m args below meth c H locs k j mc ms (F0 m pc ls st0) st (Qof γ Post a) (Ag γ)) (kk : ∀ (v : Option Value) (h' : HP), Post v h' → V p l e R s m args below meth c γ Q h' (k + mc) (j + ms) (pc + 3) L (v.toList ++ st)) : W p l e R s m args below meth c H locs k j Q (F0 m pc ls st0) := by
  intro T hT XX
  obtain ⟨v, st₀, t, T', L1, h0, X', hL, e1, e2, ⟨⟨v', h', hv, hp, hb⟩, hz, hk⟩, stp⟩ := hr T hT XX
  cases hv
  rw [h0] at hz hk
  obtain ⟨t2, a1, b1⟩ := kk v h' hp T'.heap (locs ++ L1) ls (by rw [e1]; exact hb) ⟨Nat.le_trans hS.1 (by rw [e1]; exact hz), fun q h1 h2 => by rw [e1, hk q (Nat.lt_of_lt_of_le h1 hS.1) h2]; exact hS.2.1 q h1 h2, fun q hq => by
      rcases List.mem_append.mp hq with h3 | h3
      · exact hS.2.2 q h3
      · exact hL q h3⟩ hl T' rfl X'
  exact ⟨t2, stp t2 a1, b1⟩
abbrev Rm (R : Room) (k j fr lc mc ms maxL2 : Nat) : Prop := fr + 1 ≤ R.frames ∧ 8 + (maxL2 + 11) + lc ≤ R.locals ∧ k + mc ≤ R.cells ∧ j + ms ≤ R.slots
theorem v_callV (X : Cx p s m args meth c γ y cc nL ret) {b : Nat} {As : List Value} {ci : Nat} {r : vw_C} {fs : List Value} (M : MV y.cls index y2 cc2 maxL2 ret2 n) (hC : Cr l γ y2 cc2 maxL2 ret2 fr lc mc ms (.ref b :: As) h Post) (hci : vwCl[ci]? = some r) (hcls : r.1 = y2.cls) (hb : h.1 b = some (.inr (ci, fs))) (hn : As.length = n) (hm : Rm R k j fr lc mc ms maxL2) (hw : (st.map fun v => v.category).sum ≤ 8) (hnL : L.length = nL) (d : decode cc pc = .ok (.invokevirtual index, 3)) {st0 : List Value} (hst : st0 = As.reverse ++ .ref b :: st)
    (kk : ∀ (v : Option Value) (h' : HP), Post v h' → V p l e R s m args below meth c γ Q h' (k + mc) (j + ms) (pc + 3) L (v.toList ++ st)) : V p l e R s m args below meth c γ Q h k j pc L st0 := by
  intro H locs ls hh hS hl
  subst hst
  have hts := X.2.2.2.2.1
  have hcb : CallB R s args y.cls index y2 cc2 maxL2 ret2 (.code y2 cc2 maxL2 ret2 :: tb) { frames := fr, cells := mc, slots := ms, locals := lc } mc ms n := callB_of n hts (tb_cons M.1.2.2.2.2) rfl rfl rfl (hts _ M.1.2.2.2.1) (hts _ M.1.1) M.2 ⟨hm.1, hm.2.1⟩
  refine v_back X.2.2.2.2.2.2.2.1 hS hl (va_runV (C := y2.cls) (As := As) (rest := st) ⟨X.1, X.2.1, X.2.2.1, X.2.2.2.1, hts⟩ hC ⟨hcb, hts _ M.1.2.1, hts _ M.1.2.2.1⟩ ⟨pre_blind, ?_, fun U hU hW => ⟨rfl, X.2.2.2.2.2.2.2.1.at hS hU hW, by rw [hU]; exact hh⟩⟩ rfl hn (by show ls.size = _; rw [← hnL, hl.1]) rfl (lv_room hw) d ⟨hm.2.2.1, hm.2.2.2⟩) kk
  rw [← hcls]
  exact va_recv X.2.2.2.2.2.2.2.1.1 (at_of hh hb) (q0 := 0) hci rfl
/-- a text constant's method -/
theorem v_callT (X : Cx p s m args meth c γ y cc nL ret) {b : Nat} {As : List Value} (M : MV y.cls index y2 cc2 maxL2 ret2 n) (hC : Cr l γ y2 cc2 maxL2 ret2 fr lc mc ms (.ref b :: As) h Post) (hb : va_O y2.cls b (Ag γ) s s.heap) (hn : As.length = n) (hm : Rm R k j fr lc mc ms maxL2) (hw : (st.map fun v => v.category).sum ≤ 8) (hnL : L.length = nL) (d : decode cc pc = .ok (.invokevirtual index, 3)) {st0 : List Value} (hst : st0 = As.reverse ++ .ref b :: st)
    (kk : ∀ (v : Option Value) (h' : HP), Post v h' → V p l e R s m args below meth c γ Q h' (k + mc) (j + ms) (pc + 3) L (v.toList ++ st)) : V p l e R s m args below meth c γ Q h k j pc L st0 := by
  intro H locs ls hh hS hl
  subst hst
  have hts := X.2.2.2.2.1
  have hcb : CallB R s args y.cls index y2 cc2 maxL2 ret2 (.code y2 cc2 maxL2 ret2 :: tb) { frames := fr, cells := mc, slots := ms, locals := lc } mc ms n := callB_of n hts (tb_cons M.1.2.2.2.2) rfl rfl rfl (hts _ M.1.2.2.2.1) (hts _ M.1.1) M.2 ⟨hm.1, hm.2.1⟩
  refine v_back X.2.2.2.2.2.2.2.1 hS hl (va_runV (C := y2.cls) (As := As) (rest := st) ⟨X.1, X.2.1, X.2.2.1, X.2.2.2.1, hts⟩ hC ⟨hcb, hts _ M.1.2.1, hts _ M.1.2.2.1⟩ ⟨pre_blind, ?_, fun U hU hW => ⟨rfl, X.2.2.2.2.2.2.2.1.at hS hU hW, by rw [hU]; exact hh⟩⟩ rfl hn (by show ls.size = _; rw [← hnL, hl.1]) rfl (lv_room hw) d ⟨hm.2.2.1, hm.2.2.2⟩) kk
  obtain ⟨cell, h1, h2, h3, -⟩ := hb.kept hS.2.1
  exact ⟨cell, h1, h2, h3⟩
theorem v_callS (X : Cx p s m args meth c γ y cc nL ret) {As : List Value} (M : MS y.cls index y2 cc2 maxL2 ret2 n) (hC : Cr l γ y2 cc2 maxL2 ret2 fr lc mc ms As h Post) (hn : As.length = n) (hm : Rm R k j fr lc mc ms maxL2) (hw : (st.map fun v => v.category).sum ≤ 8) (hnL : L.length = nL) (d : decode cc pc = .ok (.invokestatic index, 3)) {st0 : List Value} (hst : st0 = As.reverse ++ st)
    (kk : ∀ (v : Option Value) (h' : HP), Post v h' → V p l e R s m args below meth c γ Q h' (k + mc) (j + ms) (pc + 3) L (v.toList ++ st)) : V p l e R s m args below meth c γ Q h k j pc L st0 := by
  intro H locs ls hh hS hl
  subst hst
  have hts := X.2.2.2.2.1
  have hcb : CallB R s args y.cls index y2 cc2 maxL2 ret2 (.code y2 cc2 maxL2 ret2 :: tb) { frames := fr, cells := mc, slots := ms, locals := lc } mc ms n := callB_of n hts (tb_cons M.1.2.2.2) rfl rfl rfl (hts _ M.1.2.2.1) (hts _ M.1.1) M.2 ⟨hm.1, hm.2.1⟩
  exact v_back X.2.2.2.2.2.2.2.1 hS hl (va_runS (As := As) (rest := st) ⟨X.1, X.2.1, X.2.2.1, X.2.2.2.1, hts⟩ hC ⟨hcb, hts _ M.1.2.1⟩ ⟨pre_blind, fun U hU hW => ⟨rfl, X.2.2.2.2.2.2.2.1.at hS hU hW, by rw [hU]; exact hh⟩⟩ rfl hn (by show ls.size = _; rw [← hnL, hl.1]) rfl (lv_room hw) d ⟨hm.2.2.1, hm.2.2.2⟩) kk
theorem v_callI (X : Cx p s m args meth c γ y cc nL ret) {b : Nat} {As : List Value} (M : MI y.cls index y2 cc2 maxL2 n) (hC : Cr l γ y2 cc2 maxL2 none fr lc mc ms (.ref b :: As) h Post) (hn : As.length = n) (hm : Rm R k j fr lc mc ms maxL2) (hw : (st.map fun v => v.category).sum ≤ 8) (hnL : L.length = nL) (d : decode cc pc = .ok (.invokespecial index, 3)) {st0 : List Value} (hst : st0 = As.reverse ++ .ref b :: st)
    (kk : ∀ (v : Option Value) (h' : HP), Post v h' → V p l e R s m args below meth c γ Q h' (k + mc) (j + ms) (pc + 3) L (v.toList ++ st)) : V p l e R s m args below meth c γ Q h k j pc L st0 := by
  intro H locs ls hh hS hl
  subst hst
  have hts := X.2.2.2.2.1
  have hcb : CallB R s args y.cls index y2 cc2 maxL2 none (.code y2 cc2 maxL2 none :: tb) { frames := fr, cells := mc, slots := ms, locals := lc } mc ms n := callB_of n hts (tb_cons M.1.2.2.2.2) rfl rfl rfl (hts _ M.1.2.2.2.1) (hts _ M.1.1) M.2 ⟨hm.1, hm.2.1⟩
  exact v_back X.2.2.2.2.2.2.2.1 hS hl (va_runI (b := b) (As := As) (rest := st) ⟨X.1, X.2.1, X.2.2.1, X.2.2.2.1, hts⟩ hC ⟨hcb, M.1.2.2.1, hts _ M.1.2.1⟩ ⟨pre_blind, fun U hU hW => ⟨rfl, X.2.2.2.2.2.2.2.1.at hS hU hW, by rw [hU]; exact hh⟩⟩ rfl hn (by show ls.size = _; rw [← hnL, hl.1]) rfl (lv_room hw) d ⟨hm.2.2.1, hm.2.2.2⟩) kk
theorem v_callSN (X : Cx p s m args meth c γ y cc nL ret) {As : List Value} (M : MSN y.cls index y2 cc2 maxL2 ret2 n) (hC : Cr l γ y2 cc2 maxL2 ret2 fr lc mc ms As h Post) (hn : As.length = n) (hm : Rm R k j fr lc mc ms maxL2) (hw : (st.map fun v => v.category).sum ≤ 8) (hnL : L.length = nL) (d : decode cc pc = .ok (.invokestatic index, 3)) {st0 : List Value} (hst : st0 = As.reverse ++ st)
    (kk : ∀ (v : Option Value) (h' : HP), Post v h' → V p l e R s m args below meth c γ Q h' (k + mc) (j + ms) (pc + 3) L (v.toList ++ st)) : V p l e R s m args below meth c γ Q h k j pc L st0 := by
  intro H locs ls hh hS hl
  subst hst
  have hts := X.2.2.2.2.1
  have hcn : va_CN R s args y.cls index y2 "BallastTrain" cc2 maxL2 ret2 (.code y2 cc2 maxL2 ret2 :: tb) { frames := fr, cells := mc, slots := ms, locals := lc } mc ms n := va_cnB n hts (tb_cons M.1.2.2.2) rfl rfl rfl (X.2.2.2.2.2.2.2.1.2.2.2.2.1 _ M.1.1) (hts _ M.1.2.2.1) M.2 ⟨hm.1, hm.2.1⟩
  exact v_back X.2.2.2.2.2.2.2.1 hS hl (va_runSN (As := As) (rest := st) ⟨X.1, X.2.1, X.2.2.1, X.2.2.2.1, hts⟩ hC ⟨hcn, hts _ M.1.2.1, trivial⟩ ⟨pre_blind, fun U hU hW => ⟨rfl, X.2.2.2.2.2.2.2.1.at hS hU hW, by rw [hU]; exact hh⟩⟩ rfl hn (by show ls.size = _; rw [← hnL, hl.1]) rfl (lv_room hw) d ⟨hm.2.2.1, hm.2.2.2⟩) kk
theorem v_callIN (X : Cx p s m args meth c γ y cc nL ret) {b : Nat} {As : List Value} (M : MIN y.cls index y2 cc2 maxL2 n) (hC : Cr l γ y2 cc2 maxL2 none fr lc mc ms (.ref b :: As) h Post) (hn : As.length = n) (hm : Rm R k j fr lc mc ms maxL2) (hw : (st.map fun v => v.category).sum ≤ 8) (hnL : L.length = nL) (d : decode cc pc = .ok (.invokespecial index, 3)) {st0 : List Value} (hst : st0 = As.reverse ++ .ref b :: st)
    (kk : ∀ (v : Option Value) (h' : HP), Post v h' → V p l e R s m args below meth c γ Q h' (k + mc) (j + ms) (pc + 3) L (v.toList ++ st)) : V p l e R s m args below meth c γ Q h k j pc L st0 := by
  intro H locs ls hh hS hl
  subst hst
  have hts := X.2.2.2.2.1
  have hcn : va_CN R s args y.cls index y2 "BallastTrain" cc2 maxL2 none (.code y2 cc2 maxL2 none :: tb) { frames := fr, cells := mc, slots := ms, locals := lc } mc ms n := va_cnB n hts (tb_cons M.1.2.2.2.2) rfl rfl rfl (X.2.2.2.2.2.2.2.1.2.2.2.2.1 _ M.1.1) (hts _ M.1.2.2.2.1) M.2 ⟨hm.1, hm.2.1⟩
  exact v_back X.2.2.2.2.2.2.2.1 hS hl (va_runIN (b := b) (As := As) (rest := st) ⟨X.1, X.2.1, X.2.2.1, X.2.2.2.1, hts⟩ hC ⟨hcn, M.1.2.2.1, hts _ M.1.2.1⟩ ⟨pre_blind, fun U hU hW => ⟨rfl, X.2.2.2.2.2.2.2.1.at hS hU hW, by rw [hU]; exact hh⟩⟩ rfl hn (by show ls.size = _; rw [← hnL, hl.1]) rfl (lv_room hw) d ⟨hm.2.2.1, hm.2.2.2⟩) kk
end VCALL
