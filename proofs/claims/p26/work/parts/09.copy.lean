section VCPY
variable {p : Program} {l : Launch} {e : Env} {R : Room} {s : State} {m : MethodId} {args : Array Value} {below : List Frame} {meth : Method} {c : Code} {γ : Gm} {Q : State → Prop} {y : MethodName} {cc : ByteArray} {nL : Nat} {ret : Option FieldType} {h : HP} {k j pc : Nat} {L : List (Option Value)} {st : List Value}
abbrev CpyW (own : String) (index : Nat) : Prop := Cond.methodLink own index arraycopyName ∈ tb ∧ Cond.native arraycopyName ∈ tb ∧ Cond.static arraycopyName ∈ tb ∧ Cond.initialized "java/lang/System" ∈ tb
theorem nI_int {i : Nat} (h : i < 2 ^ 31) : (nI i).toInt = (((nI i).toNatClampNeg : Nat) : Int) := by rw [nI_toInt h, nI_clamp h]
/-- System.arraycopy between rows of numbers -/
theorem v_copyi (X : Cx p s m args meth c γ y cc nL ret) {index a0 a n0 n1 : Nat} {f g : Nat → Int32} {xs xd xn : Int32} (hw : CpyW y.cls index) (hr0 : h.1 a0 = some (.inl (γ.2.2.1 0, n0, .inl f))) (hr1 : h.1 a = some (.inl (γ.2.2.1 0, n1, .inl g))) (sp dp n : Nat) (hs : xs = nI sp) (hd : xd = nI dp) (hn : xn = nI n) (h4 : sp + n ≤ n0) (h5 : dp + n ≤ n1) (hb0 : n0 < 2 ^ 31) (hb1 : n1 < 2 ^ 31) (hf : 1 ≤ R.frames) (hlo : (st.map fun v => v.category).sum + (nativeFrameWords "java/lang/System" "arraycopy" 5 + 11) ≤ R.locals) (hnL : L.length = nL) (d : decode cc pc = .ok (.invokestatic index, 3))
    (kk : V p l e R s m args below meth c γ Q (hset h a (.inl (γ.2.2.1 0, n1, .inl (va_cpy f g sp dp n)))) k j (pc + 3) L st) : V p l e R s m args below meth c γ Q h k j pc L (.int xn :: .int xd :: .ref a :: .int xs :: .ref a0 :: st) := by
  intro H locs ls hh hS hl
  subst hs; subst hd; subst hn
  have hK := X.2.2.2.2.2.2.2.1.1
  have hts := X.2.2.2.2.1
  have b1 : sp < 2 ^ 31 := by omega
  have b2 : dp < 2 ^ 31 := by omega
  have b3 : n < 2 ^ 31 := by omega
  have hc0 : H[a0]? = some (vp_cell (γ.2.2.1 0) (n0, .inl f)) := (hh.2.2 a0 _ hr0).1
  have hc1 : H[a]? = some (vp_cell (γ.2.2.1 0) (n1, .inl g)) := (hh.2.2 a _ hr1).1
  obtain ⟨-, k0, hk0, cm0, hkk0⟩ := (hK.2 0 _ rfl).1 n0 (fun j => .int (f j))
  obtain ⟨-, k1, hk1, cm1, hkk1⟩ := (hK.2 0 _ rfl).1 n1 (fun j => .int (g j))
  intro T hT XX
  obtain ⟨vm', X', step⟩ := XX.arraycopy X.1 X.2.2.2.1 (hts _ hw.1) (hts _ hw.2.1) (hts _ hw.2.2.1) (hts _ hw.2.2.2) (src := a0) (dst := a) (cs := vp_cell (γ.2.2.1 0) (n0, .inl f)) (cd := vp_cell (γ.2.2.1 0) (n1, .inl g)) (srcPos := nI sp) (destPos := nI dp) (n := nI n) (by rw [hT]; exact hc0) (by rw [hT]; exact hc1)
    (fun _ h => by cases h) (fun _ h => by cases h) (fun h => by cases h) (fun h => by cases h) hk0 hk1 hkk0 hkk1 (by simp [refKind]) (nI_pos b1) (nI_pos b2) (nI_pos b3)
    (by rw [nI_toInt b1, nI_toInt b3]; show ¬ _ > ((arrV (γ.2.2.1 0) n0 (fun j => .int (f j))).slots.size : Int); rw [arrV_size]; omega)
    (by rw [nI_toInt b2, nI_toInt b3]; show ¬ _ > ((arrV (γ.2.2.1 0) n1 (fun j => .int (g j))).slots.size : Int); rw [arrV_size]; omega)
    (fun vm₁ _ i hi => by
      rw [nI_clamp b3] at hi
      have e : (vp_cell (γ.2.2.1 0) (n0, .inl f)).slots.getD ((nI sp).toNatClampNeg + i) .null = .int (f (sp + i)) := by
        show (arrV (γ.2.2.1 0) n0 (fun j => .int (f j))).slots.getD _ _ = _
        rw [Array.getD_eq_getD_getElem?, nI_clamp b1, arrV_read _ _ (by omega)]
        rfl
      rw [e]
      exact ⟨rfl, trivial⟩)
    (g := F0 m pc ls (.int (nI n) :: .int (nI dp) :: .ref a :: .int (nI sp) :: .ref a0 :: st)) rfl (by show ls.size = _; rw [X.2.2.1, ← hnL, hl.1]) (rest := st) rfl (by rw [X.2.1]; exact d) hf (by show 2 * 0 + _ + _ ≤ _; omega)
  have e1 : copied (vp_cell (γ.2.2.1 0) (n0, .inl f)) (vp_cell (γ.2.2.1 0) (n1, .inl g)) (nI sp) (nI dp) (nI n) = vp_cell (γ.2.2.1 0) (n1, .inl (va_cpy f g sp dp n)) := by
    have h4' : (nI sp).toNatClampNeg + (nI n).toNatClampNeg ≤ n0 := by rw [nI_clamp b1, nI_clamp b3]; exact h4
    have := va_copied (n1 := n1) (dp := (nI dp).toNatClampNeg) (fun z => Value.int z) (γ.2.2.1 0) (γ.2.2.1 0) f g h4'
    rw [nI_clamp b1, nI_clamp b2, nI_clamp b3] at this
    rw [vp_cell_i, vp_cell_i, vp_cell_i]
    unfold copied
    rw [nI_clamp b1, nI_clamp b2, nI_clamp b3]
    exact this
  rw [e1] at X' step
  have hla : a < H.size := (Array.getElem?_eq_some_iff.mp hc1).1
  have hheap : ((T.setVm vm').setCell a (vp_cell (γ.2.2.1 0) (n1, .inl (va_cpy f g sp dp n)))).heap = H.setIfInBounds a (vp_cell (γ.2.2.1 0) (n1, .inl (va_cpy f g sp dp n))) := by rw [← hT]; rfl
  have oq : ∀ q : Nat, q ≠ a → (H.setIfInBounds a (vp_cell (γ.2.2.1 0) (n1, .inl (va_cpy f g sp dp n))))[q]? = H[q]? := fun q hq => by simp [Array.getElem?_setIfInBounds, Ne.symm hq]
  have hag := (hh.2.2 a _ hr1).2
  obtain ⟨t, a1, b1⟩ := kk _ _ ls (hOK_set hh hr1 (by simp) oq (show (H.setIfInBounds a _)[a]? = some _ by simp [Array.getElem?_setIfInBounds, hla])) ⟨by simp; exact hS.1, fun q g1 g2 => by
      rw [oq q (fun e => g2 (by rw [e]; exact hag))]
      exact hS.2.1 q g1 g2, fun q hq => by
      rcases List.mem_append.mp hq with h | h
      · exact hS.2.2 q h
      · obtain ⟨z, -, hz⟩ := List.mem_map.mp h
        rw [← hz]
        exact hag⟩ hl _ hheap X'
  exact ⟨t, step t a1, b1⟩
/-- what may lie in a row of objects: null, or an object that the picture holds -/
def rowOK (s : State) (h : HP) (E : String) (f : Nat → Option Nat) (i : Nat) : Prop := ∀ z, f i = some z → ∃ (ci : Nat) (r : vw_C) (fs : List Value), h.1 z = some (.inr (ci, fs)) ∧ vwCl[ci]? = some r ∧ va_Nw (.castable r.1 E) s
theorem v_copyq (X : Cx p s m args meth c γ y cc nL ret) {index a0 a n0 n1 t0 : Nat} {cA : ClassId} {E : String} {f g : Nat → Option Nat} {xs xd xn : Int32} (hw : CpyW y.cls index) (hr0 : h.1 a0 = some (.inl (cA, n0, .inr (.inr (.inr (.inr f)))))) (hr1 : h.1 a = some (.inl (cA, n1, .inr (.inr (.inr (.inr g)))))) (ht : (tyl γ)[t0]? = some (cA, .object E)) (sp dp n : Nat) (hs : xs = nI sp) (hd : xd = nI dp) (hn : xn = nI n) (h4 : sp + n ≤ n0) (h5 : dp + n ≤ n1) (hb0 : n0 < 2 ^ 31) (hb1 : n1 < 2 ^ 31) (hel : ∀ i : Nat, i < n → rowOK s h E f (sp + i)) (hf : 1 ≤ R.frames) (hlo : (st.map fun v => v.category).sum + (nativeFrameWords "java/lang/System" "arraycopy" 5 + 11) ≤ R.locals) (hnL : L.length = nL) (d : decode cc pc = .ok (.invokestatic index, 3))
    (kk : V p l e R s m args below meth c γ Q (hset h a (.inl (cA, n1, .inr (.inr (.inr (.inr (va_cpy f g sp dp n))))))) k j (pc + 3) L st) : V p l e R s m args below meth c γ Q h k j pc L (.int xn :: .int xd :: .ref a :: .int xs :: .ref a0 :: st) := by
  intro H locs ls hh hS hl
  subst hs; subst hd; subst hn
  have hK := X.2.2.2.2.2.2.2.1.1
  have hts := X.2.2.2.2.1
  have b1 : sp < 2 ^ 31 := by omega
  have b2 : dp < 2 ^ 31 := by omega
  have b3 : n < 2 ^ 31 := by omega
  have hc0 : H[a0]? = some (vp_cell cA (n0, .inr (.inr (.inr (.inr f))))) := (hh.2.2 a0 _ hr0).1
  have hc1 : H[a]? = some (vp_cell cA (n1, .inr (.inr (.inr (.inr g))))) := (hh.2.2 a _ hr1).1
  obtain ⟨-, k0, hk0, cm0, hkk0⟩ := (hK.2 t0 _ ht).1 n0 (fun j => va_rf (f j))
  obtain ⟨-, k1, hk1, cm1, hkk1⟩ := (hK.2 t0 _ ht).1 n1 (fun j => va_rf (g j))
  intro T hT XX
  obtain ⟨vm', X', step⟩ := XX.arraycopy X.1 X.2.2.2.1 (hts _ hw.1) (hts _ hw.2.1) (hts _ hw.2.2.1) (hts _ hw.2.2.2) (src := a0) (dst := a) (cs := vp_cell cA (n0, .inr (.inr (.inr (.inr f))))) (cd := vp_cell cA (n1, .inr (.inr (.inr (.inr g))))) (srcPos := nI sp) (destPos := nI dp) (n := nI n) (by rw [hT]; exact hc0) (by rw [hT]; exact hc1)
    (fun _ h => by cases h) (fun _ h => by cases h) (fun h => by cases h) (fun h => by cases h) hk0 hk1 hkk0 hkk1 rfl (nI_pos b1) (nI_pos b2) (nI_pos b3)
    (by rw [nI_toInt b1, nI_toInt b3]; show ¬ _ > ((arrV cA n0 (fun j => va_rf (f j))).slots.size : Int); rw [arrV_size]; omega)
    (by rw [nI_toInt b2, nI_toInt b3]; show ¬ _ > ((arrV cA n1 (fun j => va_rf (g j))).slots.size : Int); rw [arrV_size]; omega)
    (fun vm₁ hal i hi => by
      rw [nI_clamp b3] at hi
      have e : (vp_cell cA (n0, .inr (.inr (.inr (.inr f))))).slots.getD ((nI sp).toNatClampNeg + i) .null = va_rf (f (sp + i)) := by
        show (arrV cA n0 (fun j => va_rf (f j))).slots.getD _ _ = _
        rw [Array.getD_eq_getD_getElem?, nI_clamp b1, arrV_read _ _ (by omega)]
        rfl
      rw [e]
      cases hy : f (sp + i) with
      | none => exact ⟨rfl, trivial⟩
      | some z =>
        obtain ⟨ci, r, fs, hz, hci, hcast⟩ := hel i hi z hy
        obtain ⟨cellV, g1, g2, g3⟩ := va_recv hK (at_of hh hz) (ci := ci) (q0 := 0) hci rfl
        obtain ⟨kC, hkC, -⟩ := Vm.findClass_spec g3
        obtain ⟨c9, t9, f1, f2, f3⟩ := Cond.castable_spec (va_Nw.use (A := args) rfl hcast)
        cases g3.symm.trans f1
        obtain ⟨kA, comp, r1, r2, r3, -⟩ := (hK.2 t0 _ ht).2
        cases hk1.symm.trans r1
        cases hkk1.symm.trans r2
        cases r3.symm.trans f2
        obtain ⟨kE, hkE, -⟩ := Vm.findClass_spec r3
        obtain ⟨kC', hkC', -⟩ := hal.2.2 _ _ hkC
        obtain ⟨kE', hkE', -⟩ := hal.2.2 _ _ hkE
        refine ⟨rfl, cellV, (show T.heap[z]? = some cellV by rw [hT]; exact g1), (fun q h => by rw [h] at g2; cases g2), ⟨kC', hkC'⟩, ?_, ?_⟩
        · exact ⟨kE', hkE'⟩
        · show vm₁.assignable _ _ = true
          rw [hal.assignable]
          exact f3)
    (g := F0 m pc ls (.int (nI n) :: .int (nI dp) :: .ref a :: .int (nI sp) :: .ref a0 :: st)) rfl (by show ls.size = _; rw [X.2.2.1, ← hnL, hl.1]) (rest := st) rfl (by rw [X.2.1]; exact d) hf (by show 2 * 0 + _ + _ ≤ _; omega)
  have e1 : copied (vp_cell cA (n0, .inr (.inr (.inr (.inr f))))) (vp_cell cA (n1, .inr (.inr (.inr (.inr g))))) (nI sp) (nI dp) (nI n) = vp_cell cA (n1, .inr (.inr (.inr (.inr (va_cpy f g sp dp n))))) := by
    have h4' : (nI sp).toNatClampNeg + (nI n).toNatClampNeg ≤ n0 := by rw [nI_clamp b1, nI_clamp b3]; exact h4
    have := va_copied (n1 := n1) (dp := (nI dp).toNatClampNeg) (fun z => va_rf z) cA cA f g h4'
    rw [nI_clamp b1, nI_clamp b2, nI_clamp b3] at this
    rw [vp_cell_q, vp_cell_q, vp_cell_q]
    unfold copied
    rw [nI_clamp b1, nI_clamp b2, nI_clamp b3]
    exact this
  rw [e1] at X' step
  have hla : a < H.size := (Array.getElem?_eq_some_iff.mp hc1).1
  have hheap : ((T.setVm vm').setCell a (vp_cell cA (n1, .inr (.inr (.inr (.inr (va_cpy f g sp dp n))))))).heap = H.setIfInBounds a (vp_cell cA (n1, .inr (.inr (.inr (.inr (va_cpy f g sp dp n)))))) := by rw [← hT]; rfl
  have oq : ∀ q : Nat, q ≠ a → (H.setIfInBounds a (vp_cell cA (n1, .inr (.inr (.inr (.inr (va_cpy f g sp dp n)))))))[q]? = H[q]? := fun q hq => by simp [Array.getElem?_setIfInBounds, Ne.symm hq]
  have hag := (hh.2.2 a _ hr1).2
  obtain ⟨t, a1, b1⟩ := kk _ _ ls (hOK_set hh hr1 (by simp) oq (show (H.setIfInBounds a _)[a]? = some _ by simp [Array.getElem?_setIfInBounds, hla])) ⟨by simp; exact hS.1, fun q g1 g2 => by
      rw [oq q (fun e => g2 (by rw [e]; exact hag))]
      exact hS.2.1 q g1 g2, fun q hq => by
      rcases List.mem_append.mp hq with h | h
      · exact hS.2.2 q h
      · obtain ⟨z, -, hz⟩ := List.mem_map.mp h
        rw [← hz]
        exact hag⟩ hl _ hheap X'
  exact ⟨t, step t a1, b1⟩
end VCPY
