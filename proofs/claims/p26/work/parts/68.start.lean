/-! THE CLAIM OUT OF ONE WALK OF THE LAW'S BODY. Your part is whole_start (and what it stands on); all else here is the same for every law, but numbers. -/
def R_law : String := "BallastTrainLaw"
def lw_P (b : Addr) (xs : List Int32) (args : Array Value) (s : State) : Prop := args = #[.ref b] ∧ s.IntsAt b xs ∧ xs.length ≤ 260 ∧ (Jvm.Cond.and given_1 narrow_1).before args s = true
def lw_Q (_ : Array Value) (s : State) (o : Outcome) (t : State) : Prop := o = .returned (some (.int 1)) ∧ Framed s o t [] 600000 7302250
def lw_Z (below : List Frame) (a : Array Value) (s : State) : State → Prop := fun t => ∃ o, t.status = .running ∧ Ended t below o ∧ lw_Q a s o t
/-- the law's own end, with 1 on the stack, nothing written that was there before, its room as the claim has it -/
theorem lw_ret {p : Program} {l : Launch} {e : Env} {s : State} {m : MethodId} {below : List Frame} {meth : Method} {c : Code} {b : Nat} (hx : p.tables.exec = Jvm.exec) (hb : c.code = code) (hr : meth.sig.returnType = ret) (hlocks : meth.locks = false) {pc : Nat} {H : Heap} {ls : Array Slot} (hdg : decode code pc = .ok (.ireturn, 1)) : W p l e room_1 s m #[Value.ref b] below meth c H [] 600000 7302250 (lw_Z below #[Value.ref b] s) (F0 m pc ls [.int 1]) := by
  intro T hT X
  obtain ⟨fs, hret, hrun, hended, hW, hframe⟩ := X.leave (v := some (.int 1)) (hlocks := hlocks) (fun h => by rw [hr] at h; cases h)
  have hmeth' : T.vm.method? m = some meth := X.method'
  refine ⟨T.setFrames fs, ?_, .returned (some (.int 1)), hrun, hended, rfl, ⟨_, rfl⟩, hW, hframe⟩
  jvm_step X.here [X.here.top, hx, hb, hdg, hmeth', hr, ret, narrow_b1]
  (try refine ⟨rfl, ?_⟩); (try refine ⟨rfl, ?_⟩)
  first | (intro acts; rw [hret _ acts rfl rfl rfl]) | rw [hret _ _ rfl rfl rfl]
  exact Steps.refl _
/-- what holds at the law's entry: the machine, the code, the tables' words (any of lw_tbl by 'hts w (by decide +kernel)'), the script of L ints xs at the cell b, what the Statement gives of the start (any of its parts by flat_of_before) -/
def lw_At (p : Program) (s : State) (m : MethodId) (meth : Method) (c : Code) (b L : Nat) (xs : Nat → Int32) : Prop :=
  p.tables.exec = Jvm.exec ∧ c.code = code ∧ meth.sig.returnType = ret ∧ c.maxLocals = 11 ∧ s.vm.findClass R_law = some m.cls ∧ (∀ w ∈ lw_tbl, w.before #[Value.ref b] s = true) ∧ va_X b L xs s s.heap ∧ b < s.heap.size ∧ meth.locks = false ∧ (Jvm.Cond.and given_1 narrow_1).before #[Value.ref b] s = true
theorem ar_int {s : State} {A : Array Value} (h : (Cond.arrayClass .int).before A s = true) : ∃ cA : ClassId, ArrOfT s cA .int ∧ va_RA s cA .int := by
  obtain ⟨cA, kA, comp, h1, h2, h3⟩ := Cond.arrayClass_spec h
  exact ⟨cA, fun n z => ⟨(fun k h => by cases h), kA, h2, comp, h3⟩, h1⟩
theorem ar_obj {s : State} {A : Array Value} {C : String} (h : (Cond.arrayOver (.object C)).before A s = true) : ∃ cA : ClassId, ArrOfT s cA (.object C) ∧ va_RA s cA (.object C) := by
  obtain ⟨comp, cA, kA, g1, g2, g3, g4, g5⟩ := Cond.arrayOver_spec h
  exact ⟨cA, fun n z => ⟨(fun k h => by cases h), kA, g3, comp, g4⟩, kA, comp, g3, g4, g1, g5⟩
theorem cls_all {s : State} {A : Array Value} (htb : ∀ w ∈ tb, w.before A s = true) : ∃ D : va_G, ∀ (k : Nat) (q : vw_C), vwCl[k]? = some q → u_Kn s q.1 q.2.1 q.2.2 (D.1 k) (D.2 k) := by
  have hk : ∀ k : Nat, ∃ x : ClassId × (Nat → Nat), ∀ q : vw_C, vwCl[k]? = some q → u_Kn s q.1 q.2.1 q.2.2 x.1 x.2 := by
    intro k
    by_cases h : k < 7
    · rcases (by omega : k = 0 ∨ k = 1 ∨ k = 2 ∨ k = 3 ∨ k = 4 ∨ k = 5 ∨ k = 6) with rfl | rfl | rfl | rfl | rfl | rfl | rfl
      · obtain ⟨c0, i0, h0⟩ := u_known (ws := tb) (C := RJx4a65c) (T := TJx4a65c) (N := 3) (n := 3) htb inb_Jx4a65c (htb (.instantiable RJx4a65c 3) (by decide +kernel))
        exact ⟨(c0, i0), fun q hq => by cases hq; exact h0⟩
      · obtain ⟨c0, i0, h0⟩ := u_known (ws := tb) (C := RX0) (T := TX0) (N := 3) (n := 3) htb inb_X0 (htb (.instantiable RX0 3) (by decide +kernel))
        exact ⟨(c0, i0), fun q hq => by cases hq; exact h0⟩
      · obtain ⟨c0, i0, h0⟩ := u_known (ws := tb) (C := RX2) (T := TX2) (N := 9) (n := 9) htb inb_X2 (htb (.instantiable RX2 9) (by decide +kernel))
        exact ⟨(c0, i0), fun q hq => by cases hq; exact h0⟩
      · obtain ⟨c0, i0, h0⟩ := u_known (ws := tb) (C := RX3) (T := TX3) (N := 5) (n := 5) htb inb_X3 (htb (.instantiable RX3 5) (by decide +kernel))
        exact ⟨(c0, i0), fun q hq => by cases hq; exact h0⟩
      · obtain ⟨c0, i0, h0⟩ := u_known (ws := tb) (C := RX4) (T := TX4) (N := 1) (n := 1) htb inb_X4 (htb (.instantiable RX4 1) (by decide +kernel))
        exact ⟨(c0, i0), fun q hq => by cases hq; exact h0⟩
      · obtain ⟨c0, i0, h0⟩ := u_known (ws := tb) (C := RX5) (T := TX5) (N := 8) (n := 8) htb inb_X5 (htb (.instantiable RX5 8) (by decide +kernel))
        exact ⟨(c0, i0), fun q hq => by cases hq; exact h0⟩
      · obtain ⟨c0, i0, h0⟩ := u_known (ws := tb) (C := RX6) (T := TX6) (N := 4) (n := 4) htb inb_X6 (htb (.instantiable RX6 4) (by decide +kernel))
        exact ⟨(c0, i0), fun q hq => by cases hq; exact h0⟩
    · exact ⟨(0, fun _ => 0), fun q hq => by
        rw [List.getElem?_eq_none (show vwCl.length ≤ k from Nat.not_lt.mp h)] at hq
        cases hq⟩
  obtain ⟨f, hf⟩ := Classical.axiomOfChoice hk
  exact ⟨(fun k => (f k).1, fun k => (f k).2), fun k q hq => hf k q hq⟩
theorem i5 {P : Nat → Prop} (h0 : P 0) (h1 : P 1) (h2 : P 2) (h3 : P 3) (h4 : P 4) : ∀ i, i < 5 → P i := by
  intro i hi
  rcases (by omega : i = 0 ∨ i = 1 ∨ i = 2 ∨ i = 3 ∨ i = 4) with rfl | rfl | rfl | rfl | rfl <;> assumption
def adr (a0 a1 a2 a5 a6 : Nat) (n : Nat) : Nat := if n = 0 then a0 else if n = 1 then a1 else if n = 2 then a2 else if n = 5 then a5 else a6
theorem scr_T {b L : Nat} {xs : Nat → Int32} {U : State} {H : Heap} {A : Nat → Prop} (h : va_X b L xs U H) (hA : ¬ A b) : va_T .int b L (fun j => .int (xs j)) A U H := by
  obtain ⟨scr, h1, h2, h3, h4, h5⟩ := h
  exact ⟨scr, h1, h2, h3, by omega, by rw [h4], h5, hA⟩
theorem env_0 {s : State} {A : Array Value} {b L : Nat} {xs : Nat → Int32} (hts : ∀ w ∈ lw_tbl, w.before A s = true) (hgv : (Jvm.Cond.and given_1 narrow_1).before A s = true) (hX : va_X b L xs s s.heap) (hbl : b < s.heap.size) (hL : L ≤ 260) : ∃ γ : Gm, γ.1 = s.heap.size ∧ γ.2.2.2 5 = b ∧ EnvG γ s := by
  have hs := flat_of_before _ hgv
  have htb : ∀ w ∈ tb, w.before A s = true := fun w hw => hts w (tb_lw hw)
  obtain ⟨D, hD⟩ := cls_all htb
  obtain ⟨c0, r0, r0'⟩ := ar_int (htb _ ac_int)
  obtain ⟨c1, r1, r1'⟩ := ar_obj (hts (.arrayOver (.object "BallastTrain$State")) (by decide +kernel))
  obtain ⟨c2, r2, r2'⟩ := ar_obj (hts (.arrayOver (.object "java/lang/Object")) (by decide +kernel))
  have hA : ∀ a : Nat, a < s.heap.size → ¬ (fun q : Nat => s.heap.size ≤ q) a := fun a h => Nat.not_le.mpr h
  obtain ⟨a0, e0, T0⟩ := va_Tof (args := A) (s := s) (tm := .static "BallastTrain" "LEAST_SETTING" "[I") (ty := .int) (N := 5) (f := fun j => .int (lstS j)) (A := fun q : Nat => s.heap.size ≤ q) (by decide) (hs _ (by decide +kernel)) (va_eqt (hs _ (by decide +kernel))) (i5 (va_eqt (hs _ (by decide +kernel))) (va_eqt (hs _ (by decide +kernel))) (va_eqt (hs _ (by decide +kernel))) (va_eqt (hs _ (by decide +kernel))) (va_eqt (hs _ (by decide +kernel)))) hA
  obtain ⟨a1, e1, T1⟩ := va_Tof (args := A) (s := s) (tm := .static "BallastTrain" "MOST_SETTING" "[I") (ty := .int) (N := 5) (f := fun j => .int (mstS j)) (A := fun q : Nat => s.heap.size ≤ q) (by decide) (hs _ (by decide +kernel)) (va_eqt (hs _ (by decide +kernel))) (i5 (va_eqt (hs _ (by decide +kernel))) (va_eqt (hs _ (by decide +kernel))) (va_eqt (hs _ (by decide +kernel))) (va_eqt (hs _ (by decide +kernel))) (va_eqt (hs _ (by decide +kernel)))) hA
  obtain ⟨a2, e2, T2⟩ := va_Tof (args := A) (s := s) (tm := .static "java/util/ArrayList" "DEFAULTCAPACITY_EMPTY_ELEMENTDATA" "[Ljava/lang/Object;") (ty := .object "java/lang/Object") (N := 0) (f := fun _ => .null) (A := fun q : Nat => s.heap.size ≤ q) (by decide) (hs _ (by decide +kernel)) (va_eqt (hs _ (by decide +kernel))) (fun j hj => absurd hj (Nat.not_lt_zero j)) hA
  refine ⟨(s.heap.size, D, fun n => if n = 0 then c0 else if n = 1 then c1 else c2, adr a0 a1 a2 b L), rfl, rfl, ⟨hD, ?_⟩, Nat.le_refl _, ⟨⟨?_, T0⟩, ⟨?_, T1⟩, ⟨?_, T2⟩, xs, scr_T hX (hA b hbl)⟩, ?_⟩
  · intro k q hq
    by_cases h : k < 3
    · rcases (by omega : k = 0 ∨ k = 1 ∨ k = 2) with rfl | rfl | rfl
      · cases hq; exact ⟨r0, r0'⟩
      · cases hq; exact ⟨r1, r1'⟩
      · cases hq; exact ⟨r2, r2'⟩
    · rw [List.getElem?_eq_none (show 3 ≤ k from Nat.not_lt.mp h)] at hq
      cases hq
  · exact va_Zof (hts (.laysStatic "BallastTrain" "LEAST_SETTING" "[I") (by decide +kernel)) (hts (.initialized "BallastTrain") (by decide +kernel)) e0 hA
  · exact va_Zof (hts (.laysStatic "BallastTrain" "MOST_SETTING" "[I") (by decide +kernel)) (hts (.initialized "BallastTrain") (by decide +kernel)) e1 hA
  · exact va_Zof (hts (.laysStatic "java/util/ArrayList" "DEFAULTCAPACITY_EMPTY_ELEMENTDATA" "[Ljava/lang/Object;") (by decide +kernel)) (hts (.initialized "java/util/ArrayList") (by decide +kernel)) e2 hA
  · exact ⟨hL, fun q hq => va_Nw.of rfl (hts _ ((by decide +kernel : ∀ q ∈ nests, (Cond.methodLinkNest q.1 q.2.1 q.2.2 "BallastTrain") ∈ lw_tbl) q hq)), va_AO.of (hts (.arrayOver (.object "BallastTrain$State")) (by decide +kernel)), va_AO.of (hts (.arrayOver (.object "java/lang/Object")) (by decide +kernel))⟩
theorem whole_start {p : Program} {e : Env} {s : State} {m : MethodId} {below : List Frame} {meth : Method} {c : Code} (l : Launch) (hflags : l.flags = flags0) {b L : Nat} {xs : Nat → Int32} (hL : L ≤ 260) (C0 : lw_At p s m meth c b L xs) : W p l e room_1 s m #[Value.ref b] below meth c s.heap [] 0 0 (lw_Z below #[Value.ref b] s) (entryFrame m ([Value.ref b] : List Value).toArray 11) := by
  obtain ⟨hx, hb, hr, hml, hown, hts, hX, hbl, hlocks, hgv⟩ := C0
  obtain ⟨γ, hγ, h5, hE⟩ := env_0 hts hgv hX hbl hL
  have X : Cx p s m #[Value.ref b] meth c γ yL_law cL_law 11 (some .boolean) := ⟨hx, hb, hml, hown, fun w hw => hts w (tb_lw hw), hr, hlocks, hE, fun h => absurd h (by decide)⟩
  rw [lg_entry_eq]
  refine law_walk X ?_ s.heap [] _ ⟨hγ.symm, Nat.le_refl _, fun a e h => absurd h (by simp)⟩ va_S.rf (by rw [h5]; exact lo_entry (av := [.ref b]) (n := 11) (Nat.le_of_ble_eq_true rfl))
  intro h k j L hk hj H locs ls hh hS hl
  exact va_forget (fun q hq => by have h9 := hS.2.2 q hq; show s.heap.size ≤ q.base; rw [← hγ]; exact h9) (W.widen hk hj (lw_ret hx hb hr hlocks dL_law_700))
