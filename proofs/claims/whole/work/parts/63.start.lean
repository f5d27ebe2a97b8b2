/-! THE CLAIM OUT OF ONE WALK OF THE LAW'S BODY. Your part is whole_start (and what it stands on); all else here is the same for every law, but numbers. -/
def R_law : String := "BallastTrainLaw"
def lw_P (b : Addr) (xs : List Int32) (args : Array Value) (s : State) : Prop := args = #[.ref b] ∧ s.IntsAt b xs ∧ xs.length ≤ 2048 ∧ (Jvm.Cond.and given_1 narrow_1).before args s = true
def lw_Q (_ : Array Value) (s : State) (o : Outcome) (t : State) : Prop := o = .returned (some (.int 1)) ∧ Framed s o t [] 600000 7302250
def lw_Z (below : List Frame) (a : Array Value) (s : State) : State → Prop := fun t => ∃ o, t.status = .running ∧ Ended t below o ∧ lw_Q a s o t
/-- the law's own end, with 1 on the stack, nothing written that was there before, its room as the claim has it -/
theorem lw_ret {p : Program} {l : Launch} {e : Env} {s : State} {m : MethodId} {below : List Frame} {meth : Method} {c : Code} {b : Nat} (hx : p.tables.exec = Jvm.exec) (hb : c.code = code) (hr : meth.sig.returnType = ret) (hlocks : meth.locks = false) {pc : Nat} {H : Heap} {ls : Array Slot} (hdg : decode code pc = .ok (.ireturn, 1)) : W p l e room_1 s m #[Value.ref b] below meth c H [] 600000 7302250 (lw_Z below #[Value.ref b] s) (F0 m pc ls [.int 1]) := by
  intro T hT X
  obtain ⟨fs, hret, hrun, hended, hW, hframe⟩ := X.leave (v := some (.int 1)) (hlocks := hlocks) (fun h => by rw [hr] at h; cases h)
  have hmeth' : T.vm.method? m = some meth := X.method'
  refine ⟨T.setFrames fs, ?_, .returned (some (.int 1)), hrun, hended, rfl, ⟨_, rfl⟩, hW, hframe⟩
  jvm_step X.here [X.here.top, hx, hb, hdg, hmeth', hr, ret, narrow_b1]
  (try refine ⟨rfl, ?_⟩); (try refine ⟨rfl, ?_⟩)
  first | (intro acts; rw [hret _ acts rfl rfl rfl]) | rw [hret _ _ rfl rfl rfl]
  exact Steps.refl _
/-- what holds at the law's entry: the machine, the code, the tables' words (any of lw_tbl by 'hts w (by decide +kernel)'), the script of L ints xs at the cell b, what the Statement gives of the start (any of its parts by flat_of_before) -/
def lw_At (p : Program) (s : State) (m : MethodId) (meth : Method) (c : Code) (b L : Nat) (xs : Nat → Int32) : Prop :=
  p.tables.exec = Jvm.exec ∧ c.code = code ∧ meth.sig.returnType = ret ∧ c.maxLocals = 4 ∧ s.vm.findClass R_law = some m.cls ∧ (∀ w ∈ lw_tbl, w.before #[Value.ref b] s = true) ∧ va_X b L xs s s.heap ∧ b < s.heap.size ∧ meth.locks = false ∧ (Jvm.Cond.and given_1 narrow_1).before #[Value.ref b] s = true
theorem ar_int {s : State} {A : Array Value} (h : (Cond.arrayClass .int).before A s = true) : ∃ cA : ClassId, ArrOfT s cA .int ∧ va_RA s cA .int := by
  obtain ⟨cA, kA, comp, h1, h2, h3⟩ := Cond.arrayClass_spec h
  exact ⟨cA, fun n z => ⟨(fun k h => by cases h), kA, h2, comp, h3⟩, h1⟩
theorem ar_obj {s : State} {A : Array Value} {C : String} (h : (Cond.arrayOver (.object C)).before A s = true) : ∃ cA : ClassId, ArrOfT s cA (.object C) ∧ va_RA s cA (.object C) := by
  obtain ⟨comp, cA, kA, g1, g2, g3, g4, g5⟩ := Cond.arrayOver_spec h
  exact ⟨cA, fun n z => ⟨(fun k h => by cases h), kA, g3, comp, g4⟩, kA, comp, g3, g4, g1, g5⟩
theorem cls_all {s : State} {A : Array Value} (htb : ∀ w ∈ tb, w.before A s = true) : ∃ D : va_G, ∀ (k : Nat) (q : vw_C), vwCl[k]? = some q → u_Kn s q.1 q.2.1 q.2.2 (D.1 k) (D.2 k) := by
  have hk : ∀ k : Nat, ∃ x : ClassId × (Nat → Nat), ∀ q : vw_C, vwCl[k]? = some q → u_Kn s q.1 q.2.1 q.2.2 x.1 x.2 := by
    intro k
    by_cases h : k < 9
    · rcases (by omega : k = 0 ∨ k = 1 ∨ k = 2 ∨ k = 3 ∨ k = 4 ∨ k = 5 ∨ k = 6 ∨ k = 7 ∨ k = 8) with rfl | rfl | rfl | rfl | rfl | rfl | rfl | rfl | rfl
      · obtain ⟨c0, i0, h0⟩ := u_known (ws := tb) (C := RJx4a65c) (T := TJx4a65c) (N := 3) (n := 3) htb inb_Jx4a65c (htb (.instantiable RJx4a65c 3) (by decide +kernel))
        exact ⟨(c0, i0), fun q hq => by cases hq; exact h0⟩
      · obtain ⟨c0, i0, h0⟩ := u_known (ws := tb) (C := RX0) (T := TX0) (N := 3) (n := 3) htb inb_X0 (htb (.instantiable RX0 3) (by decide +kernel))
        exact ⟨(c0, i0), fun q hq => by cases hq; exact h0⟩
      · obtain ⟨c0, i0, h0⟩ := u_known (ws := tb) (C := RX1) (T := TX1) (N := 5) (n := 5) htb inb_X1 (htb (.instantiable RX1 5) (by decide +kernel))
        exact ⟨(c0, i0), fun q hq => by cases hq; exact h0⟩
      · obtain ⟨c0, i0, h0⟩ := u_known (ws := tb) (C := RX2) (T := TX2) (N := 9) (n := 9) htb inb_X2 (htb (.instantiable RX2 9) (by decide +kernel))
        exact ⟨(c0, i0), fun q hq => by cases hq; exact h0⟩
      · obtain ⟨c0, i0, h0⟩ := u_known (ws := tb) (C := RX3) (T := TX3) (N := 5) (n := 5) htb inb_X3 (htb (.instantiable RX3 5) (by decide +kernel))
        exact ⟨(c0, i0), fun q hq => by cases hq; exact h0⟩
      · obtain ⟨c0, i0, h0⟩ := u_known (ws := tb) (C := RX4) (T := TX4) (N := 1) (n := 1) htb inb_X4 (htb (.instantiable RX4 1) (by decide +kernel))
        exact ⟨(c0, i0), fun q hq => by cases hq; exact h0⟩
      · obtain ⟨c0, i0, h0⟩ := u_known (ws := tb) (C := RX5) (T := TX5) (N := 8) (n := 8) htb inb_X5 (htb (.instantiable RX5 8) (by decide +kernel))
        exact ⟨(c0, i0), fun q hq => by cases hq; exact h0⟩
      · obtain ⟨c0, i0, h0⟩ := u_known (ws := tb) (C := RX6) (T := TX6) (N := 4) (n := 4) htb inb_X6 (htb (.instantiable RX6 4) (by decide +kernel))
        exact ⟨(c0, i0), fun q hq => by cases hq; exact h0⟩
      · obtain ⟨c0, i0, h0⟩ := u_known (ws := tb) (C := RX7) (T := TX7) (N := 11) (n := 11) htb inb_X7 (htb (.instantiable RX7 11) (by decide +kernel))
        exact ⟨(c0, i0), fun q hq => by cases hq; exact h0⟩
    · exact ⟨(0, fun _ => 0), fun q hq => by
        rw [List.getElem?_eq_none (show vwCl.length ≤ k from Nat.not_lt.mp h)] at hq
        cases hq⟩
  obtain ⟨f, hf⟩ := Classical.axiomOfChoice hk
  exact ⟨(fun k => (f k).1, fun k => (f k).2), fun k q hq => hf k q hq⟩
def sIx (i : Nat) : Nat := [41, 51, 57, 59].getD i 0
theorem i4 {P : Nat → Prop} (h0 : P 0) (h1 : P 1) (h2 : P 2) (h3 : P 3) : ∀ i, i < 4 → P i := by
  intro i hi
  rcases (by omega : i = 0 ∨ i = 1 ∨ i = 2 ∨ i = 3) with rfl | rfl | rfl | rfl <;> assumption
theorem i5 {P : Nat → Prop} (h0 : P 0) (h1 : P 1) (h2 : P 2) (h3 : P 3) (h4 : P 4) : ∀ i, i < 5 → P i := by
  intro i hi
  rcases (by omega : i = 0 ∨ i = 1 ∨ i = 2 ∨ i = 3 ∨ i = 4) with rfl | rfl | rfl | rfl | rfl <;> assumption
theorem strs {s : State} {A : Array Value} {B : Nat → Prop} (hs : ∀ c ∈ flatC (Jvm.Cond.and given_1 narrow_1), c.before A s = true) (hA : ∀ a : Nat, a < s.heap.size → ¬ B a) : ∃ adK adV : Nat → Nat, vk_S 4 [1, 3, 3, 1] [[64], [111, 99, 118], [108, 109, 114], [59]] adK adV B s s.heap ∧ ∀ i : Nat, i < 4 → (Term.string "BallastTrain$Text" (sIx i)).eval A s none [] s = some (.ref (adK i)) := by
  refine vk_Sof (tm := fun i => Term.string "BallastTrain$Text" (sIx i)) (by decide) ?_ ?_ ?_ ?_ ?_ ?_ hA
  · exact i4 (hs _ (by decide +kernel)) (hs _ (by decide +kernel)) (hs _ (by decide +kernel)) (hs _ (by decide +kernel))
  · exact i4 (hs _ (by decide +kernel)) (hs _ (by decide +kernel)) (hs _ (by decide +kernel)) (hs _ (by decide +kernel))
  · exact i4 (hs _ (by decide +kernel)) (hs _ (by decide +kernel)) (hs _ (by decide +kernel)) (hs _ (by decide +kernel))
  · exact i4 (hs _ (by decide +kernel)) (hs _ (by decide +kernel)) (hs _ (by decide +kernel)) (hs _ (by decide +kernel))
  · refine i4 ?_ ?_ ?_ ?_
    · intro j hj
      have hj : j < 1 := hj
      have : j = 0 := by omega
      subst this
      exact hs _ (by decide +kernel)
    · intro j hj
      have hj : j < 3 := hj
      rcases (by omega : j = 0 ∨ j = 1 ∨ j = 2) with rfl | rfl | rfl
      · exact hs _ (by decide +kernel)
      · exact hs _ (by decide +kernel)
      · exact hs _ (by decide +kernel)
    · intro j hj
      have hj : j < 3 := hj
      rcases (by omega : j = 0 ∨ j = 1 ∨ j = 2) with rfl | rfl | rfl
      · exact hs _ (by decide +kernel)
      · exact hs _ (by decide +kernel)
      · exact hs _ (by decide +kernel)
    · intro j hj
      have hj : j < 1 := hj
      have : j = 0 := by omega
      subst this
      exact hs _ (by decide +kernel)
  · intro i j hi hj hij
    rcases (by omega : i = 0 ∨ i = 1 ∨ i = 2 ∨ i = 3) with rfl | rfl | rfl | rfl <;> rcases (by omega : j = 0 ∨ j = 1 ∨ j = 2 ∨ j = 3) with rfl | rfl | rfl | rfl <;> first | exact absurd rfl hij | exact Or.inl (hs _ (by decide +kernel)) | exact Or.inr (hs _ (by decide +kernel))
theorem vk_cg {N : Nat} {len : List Nat} {byt : List (List Int32)} {adK adV aK aV : Nat → Nat} {A : Nat → Prop} {U : State} {H : Heap} (h : vk_S N len byt adK adV A U H) (h1 : ∀ i, i < N → aK i = adK i) (h2 : ∀ i, i < N → aV i = adV i) : vk_S N len byt aK aV A U H :=
  ⟨fun i hi => by rw [h1 i hi, h2 i hi]; exact h.1 i hi, fun i j hi hj e => h.2 i j hi hj (by rw [← h1 i hi, ← h1 j hj]; exact e)⟩
def adr (a0 a1 a2 a3 : Nat) (aK aV : Nat → Nat) (n : Nat) : Nat := if n = 0 then a0 else if n = 1 then a1 else if n = 2 then a2 else if n = 3 then a3 else if n < 20 then aK (n - 10) else aV (n - 20)
theorem env_0 {s : State} {A : Array Value} (hts : ∀ w ∈ lw_tbl, w.before A s = true) (hgv : (Jvm.Cond.and given_1 narrow_1).before A s = true) : ∃ γ : Gm, γ.1 = s.heap.size ∧ EnvG γ s := by
  have hs := flat_of_before _ hgv
  have htb : ∀ w ∈ tb, w.before A s = true := fun w hw => hts w (tb_lw hw)
  obtain ⟨D, hD⟩ := cls_all htb
  obtain ⟨c0, r0, r0'⟩ := ar_int (htb _ ac_int)
  obtain ⟨c1, r1, r1'⟩ := ar_obj (hts (.arrayOver (.object "BallastTrain$State")) (by decide +kernel))
  obtain ⟨c2, r2, r2'⟩ := ar_obj (hts (.arrayOver (.object "java/lang/Object")) (by decide +kernel))
  have hA : ∀ a : Nat, a < s.heap.size → ¬ (fun q : Nat => s.heap.size ≤ q) a := fun a h => Nat.not_le.mpr h
  obtain ⟨a0, e0, T0⟩ := va_Tof (args := A) (s := s) (tm := .static "BallastTrain" "LEAST_SETTING" "[I") (ty := .int) (N := 5) (f := fun j => .int (lstS j)) (A := fun q : Nat => s.heap.size ≤ q) (by decide) (hs _ (by decide +kernel)) (va_eqt (hs _ (by decide +kernel))) (i5 (va_eqt (hs _ (by decide +kernel))) (va_eqt (hs _ (by decide +kernel))) (va_eqt (hs _ (by decide +kernel))) (va_eqt (hs _ (by decide +kernel))) (va_eqt (hs _ (by decide +kernel)))) hA
  obtain ⟨a1, e1, T1⟩ := va_Tof (args := A) (s := s) (tm := .static "BallastTrain" "MOST_SETTING" "[I") (ty := .int) (N := 5) (f := fun j => .int (mstS j)) (A := fun q : Nat => s.heap.size ≤ q) (by decide) (hs _ (by decide +kernel)) (va_eqt (hs _ (by decide +kernel))) (i5 (va_eqt (hs _ (by decide +kernel))) (va_eqt (hs _ (by decide +kernel))) (va_eqt (hs _ (by decide +kernel))) (va_eqt (hs _ (by decide +kernel))) (va_eqt (hs _ (by decide +kernel)))) hA
  obtain ⟨a2, e2, T2⟩ := va_Tof (args := A) (s := s) (tm := .static "java/util/ArrayList" "DEFAULTCAPACITY_EMPTY_ELEMENTDATA" "[Ljava/lang/Object;") (ty := .object "java/lang/Object") (N := 0) (f := fun _ => .null) (A := fun q : Nat => s.heap.size ≤ q) (by decide) (hs _ (by decide +kernel)) (va_eqt (hs _ (by decide +kernel))) (fun j hj => absurd hj (Nat.not_lt_zero j)) hA
  obtain ⟨a3, e3⟩ := va_Mi.of (hs (.isRef (.mirror "[Ljava/lang/Object;")) (by decide +kernel))
  obtain ⟨aK, aV, S0, S1⟩ := strs hs hA
  have kK : ∀ i, i < 4 → adr a0 a1 a2 a3 aK aV (10 + i) = aK i := i4 rfl rfl rfl rfl
  have kV : ∀ i, i < 4 → adr a0 a1 a2 a3 aK aV (20 + i) = aV i := i4 rfl rfl rfl rfl
  refine ⟨(s.heap.size, D, fun n => if n = 0 then c0 else if n = 1 then c1 else c2, adr a0 a1 a2 a3 aK aV), rfl, ⟨hD, ?_⟩, Nat.le_refl _, ⟨⟨?_, T0⟩, ⟨?_, T1⟩, ⟨?_, T2⟩, ?_, vk_cg S0 kK kV⟩, ?_⟩
  · intro k q hq
    by_cases h : k < 3
    · rcases (by omega : k = 0 ∨ k = 1 ∨ k = 2) with rfl | rfl | rfl
      · cases hq; exact ⟨r0, r0'⟩
      · cases hq; exact ⟨r1, r1'⟩
      · cases hq; exact ⟨r2, r2'⟩
    · rw [List.getElem?_eq_none (show 3 ≤ k from Nat.not_lt.mp h)] at hq
      cases hq
  · exact va_Zof (hts (.laysStatic "BallastTrain" "LEAST_SETTING" "[I") (by decide +kernel)) (hts (.initialized "BallastTrain") (by decide +kernel)) e0 hA
  · exact va_Zof (hts (.laysStatic "BallastTrain" "MOST_SETTING" "[I") (by decide +kernel)) (hts (.initialized "BallastTrain") (by decide +kernel)) e1 hA
  · exact va_Zof (hts (.laysStatic "java/util/ArrayList" "DEFAULTCAPACITY_EMPTY_ELEMENTDATA" "[Ljava/lang/Object;") (by decide +kernel)) (hts (.initialized "java/util/ArrayList") (by decide +kernel)) e2 hA
  · exact va_Zof (hts (.laysStatic "java/lang/String" "COMPACT_STRINGS" "Z") (by decide +kernel)) (hts (.initialized "java/lang/String") (by decide +kernel)) (va_eqi (hs _ (by decide +kernel))) hA
  · have hst : ∀ i, i < 4 → ∀ tx, (Cond.stringRef "BallastTrain$Text" (sIx i) tx) ∈ lw_tbl → vk_R "BallastTrain$Text" (sIx i) tx (adr a0 a1 a2 a3 aK aV (10 + i)) s := fun i hi tx hm => by
      rw [kK i hi]
      exact vk_R.of (hts _ hm) (S1 i hi)
    exact ⟨⟨hst 0 (by decide) _ (by decide +kernel), hst 1 (by decide) _ (by decide +kernel), hst 2 (by decide) _ (by decide +kernel), hst 3 (by decide) _ (by decide +kernel)⟩, fun q hq => va_Nw.of rfl (hts _ ((by decide +kernel : ∀ q ∈ nests, (Cond.methodLinkNest q.1 q.2.1 q.2.2 "BallastTrain") ∈ lw_tbl) q hq)), va_AO.of (hts (.arrayOver (.object "BallastTrain$State")) (by decide +kernel)), va_AO.of (hts (.arrayOver (.object "java/lang/Object")) (by decide +kernel)), e3, va_Dc.of (hts (.declares ⟨"java/lang/Object", "getClass", "()Ljava/lang/Class;"⟩) (by decide +kernel)), va_Nw.of rfl (hts (.castable "BallastTrain$Order" "java/lang/Object") (by decide +kernel))⟩
theorem whole_start {p : Program} {e : Env} {s : State} {m : MethodId} {below : List Frame} {meth : Method} {c : Code} (l : Launch) (hflags : l.flags = flags0) {b L : Nat} {xs : Nat → Int32} (hL : L ≤ 2048) (C0 : lw_At p s m meth c b L xs) : W p l e room_1 s m #[Value.ref b] below meth c s.heap [] 0 0 (lw_Z below #[Value.ref b] s) (entryFrame m ([Value.ref b] : List Value).toArray 4) := by
  obtain ⟨hx, hb, hr, hml, hown, hts, hX, hbl, hlocks, hgv⟩ := C0
  obtain ⟨γ, hγ, hE⟩ := env_0 hts hgv
  have X : Cx p s m #[Value.ref b] meth c γ yL_law cL_law 4 (some .boolean) := ⟨hx, hb, hml, hown, fun w hw => hts w (tb_lw hw), hr, hlocks, hE, fun h => absurd h (by decide)⟩
  have hbA : ¬ Ag γ b := by
    show ¬ γ.1 ≤ b
    omega
  rw [lg_entry_eq]
  refine law_walk X hX hbl hbA hL ?_ s.heap [] _ ⟨hγ.symm, Nat.le_refl _, fun a e h => absurd h (by simp)⟩ va_S.rf (lo_entry (av := [.ref b]) (n := 4) (Nat.le_of_ble_eq_true rfl))
  intro h k j L hk hj H locs ls hh hS hl
  exact va_forget (fun q hq => by have h9 := hS.2.2 q hq; show s.heap.size ≤ q.base; rw [← hγ]; exact h9) (W.widen hk hj (lw_ret hx hb hr hlocks dL_law_747))
