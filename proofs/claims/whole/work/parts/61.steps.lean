/-! a step of the law: class and reference side by side -/
def LI (γ : Gm) (W : Wd) (c : Nat) : Prop := ∃ (M P : Nat → Int32) (u t cn q tm : Nat), CI γ W c M P (W.1 13) u t cn q tm ∧ W.1 10 = M ∧ W.1 11 = P ∧ W.1 15 0 = nI u ∧ W.1 15 1 = nI t
theorem LI.mono {γ : Gm} {W : Wd} {c c' : Nat} (h : LI γ W c) (hc : c ≤ c') : LI γ W c' := by
  obtain ⟨M, P, u, t, cn, q, tm, a, b⟩ := h
  exact ⟨M, P, u, t, cn, q, tm, a.mono hc, b⟩
theorem li_mk {γ : Gm} {W2 G : Wd} {c : Nat} {M P T : Nat → Int32} {u t cn q tm : Nat} (h : CI γ W2 c M P T u t cn q tm) (h9 : ∀ b, b < 10 → G.1 b = W2.1 b) (hl : G.2.1 = W2.2.1) (hd : G.2.2.1 = W2.2.2.1) (hs : G.2.2.2.2 = W2.2.2.2.2) (e13 : G.1 13 = T) (e10 : G.1 10 = M) (e11 : G.1 11 = P) (eu : G.1 15 0 = nI u) (et : G.1 15 1 = nI t) : LI γ G c := by
  obtain ⟨a1, a2, a3, a4, a5, a6, a7, a8⟩ := h
  have hB : ∀ j q row, LB γ W2 j q row → LB γ G j q row := by
    rintro j q row ⟨mc, d, cp, b1, b2⟩
    exact ⟨mc, d, cp, by rw [hl]; exact b1, by rw [hs, hd]; exact b2⟩
  have hO : ∀ q row, LO γ W2 row q → LO γ G row q := by
    intro q row ho t ht
    obtain ⟨a, o, b1, b2, b3, b4⟩ := ho t ht
    exact ⟨a, o, b1, b2, by rw [hs]; exact b3, by rw [hd]; exact b4⟩
  have hF : ∀ j b q N, LF γ W2 j b q N → LF γ G j b q N := by
    rintro j b q N ⟨row, b1, b2⟩
    refine ⟨row, hB _ _ _ b1, fun t ht => ?_⟩
    obtain ⟨a, c1, c2, c3, v, c4, c5⟩ := b2 t ht
    exact ⟨a, c1, c2, by rw [hs]; exact c3, v, by rw [hd]; exact c4, c5⟩
  have hQ : ∀ j, LQ γ W2 j → LQ γ G j := by
    rintro j ⟨q, row, b1, b2⟩
    exact ⟨q, row, hB _ _ _ b1, hO _ _ b2⟩
  refine ⟨M, P, u, t, cn, q, tm, ⟨(h9 0 (by omega)).trans a1, a2, hF _ _ _ _ a3, hQ _ a4, hQ _ a5, ?_, ?_, by rw [hs]; exact a8⟩, e10, e11, eu, et⟩
  · obtain ⟨nx, b1, b2, b3, b4, b5, b6, b7⟩ := a6
    refine ⟨nx, by rw [h9 9 (by omega)]; exact b1, by rw [h9 9 (by omega)]; exact b2, b3, b4, b5, fun j hj => ?_, fun k hk => hQ _ (b7 k hk)⟩
    rw [h9 ((nx - u + j) % 6 + 2) (by omega)]
    obtain ⟨cn2, q2, tm2, d1, d2, d3⟩ := b6 j hj
    exact ⟨cn2, q2, tm2, d1, hF _ _ _ _ d2, d3⟩
  · rw [e13]
    exact a7.fr (h9 8 (by omega))
theorem ext13 (γ : Gm) (W : Wd) {g : Nat → Int32} (h : ∀ i, i < 60 → W.1 13 i = g i) : rdw γ W = rdw γ (wset W 13 g) := by
  refine Prod.ext (funext fun a => ?_) rfl
  refine rdw_off γ _ _ (fun i hi hai => ?_) rfl
  by_cases hb : bk i = 13
  · have : i = 90 := by
      unfold bk at hb
      split at hb
      · omega
      · split at hb
        · omega
        · split at hb
          · omega
          · split at hb
            · omega
            · split at hb <;> omega
    subst this
    show some (iE γ 60 (vw 60 f_hts (W.1 13))) = some (iE γ 60 (vw 60 f_hts ((wset W 13 g).1 13)))
    rw [ws_same, vw_congr (n := 60) (φ := f_hts) (f := W.1 13) (f' := g) fun a ha => h a ha]
  · rw [ws_ne _ _ hb]; rfl
/-- the reference's text may be taken to be the class's row -/
theorem li_swap {γ : Gm} {W : Wd} {c : Nat} (h : LI γ W c) : ∃ W', rdw γ W = rdw γ W' ∧ LI γ W' c ∧ W'.1 13 = W'.1 8 := by
  obtain ⟨M, P, u, t, cn, q, tm, a, b1, b2, b3, b4⟩ := h
  obtain ⟨x1, x2, x3, x4⟩ := a.2.2.2.2.2.2.1
  refine ⟨wset W 13 (W.1 8), ext13 γ W fun i hi => (x3 i hi).symm, ?_, (ws_same _ _ _).trans (ws_ne _ _ (by decide)).symm⟩
  have hc : CI γ W c M P (W.1 8) u t cn q tm := ⟨a.1, a.2.1, a.2.2.1, a.2.2.2.1, a.2.2.2.2.1, a.2.2.2.2.2.1, ⟨x1, x2, fun _ _ => rfl, x4⟩, a.2.2.2.2.2.2.2⟩
  exact li_mk hc (fun b hb => ws_ne _ _ (by omega)) rfl rfl rfl (ws_same _ _ _) ((ws_ne _ _ (by decide)).trans b1) ((ws_ne _ _ (by decide)).trans b2) ((congrFun (ws_ne _ _ (by decide)) 0).trans b3) ((congrFun (ws_ne _ _ (by decide)) 1).trans b4)
theorem v_gw {p : Program} {l : Launch} {e : Env} {R : Room} {s : State} {m : MethodId} {args : Array Value} {below : List Frame} {meth : Method} {c : Code} {γ : Gm} {Q : State → Prop} {k j pc : Nat} {L : List (Option Value)} {st : List Value} {E : Wd} (h : ∀ W3, W3 = E → V p l e R s m args below meth c γ Q (rdw γ W3) k j pc L st) : V p l e R s m args below meth c γ Q (rdw γ E) k j pc L st := h E rfl
theorem st_or {γ : Gm} {W : Wd} {h9 : HP} {OK : Prop} {A : Wd → Nat → Nat → Nat → Prop} (h : (OK ∧ ∃ (W' : Wd) (cn2 q2 tm2 : Nat), h9 = rdw γ W' ∧ A W' cn2 q2 tm2 ∧ RB W W') ∨ (¬ OK ∧ h9 = rdw γ W)) : ∃ W2, h9 = rdw γ W2 ∧ RB W W2 ∧ ((OK ∧ ∃ cn2 q2 tm2, A W2 cn2 q2 tm2) ∨ (¬ OK ∧ W2 = W)) := by
  rcases h with ⟨ok, W', a, b, c, d, e, f⟩ | ⟨nok, d⟩
  · exact ⟨W', d, f, Or.inl ⟨ok, a, b, c, e⟩⟩
  · exact ⟨W, d, RB.refl W, Or.inr ⟨nok, rfl⟩⟩
/-- a change that both made -/
theorem li_ok {γ : Gm} {W W2 : Wd} {c : Nat} {M' P' : Nat → Int32} {u' t cn q tm : Nat} (h : CI γ W2 c M' P' (W.1 13) u' t cn q tm) (hr : RB W W2) (r4 : W.1 15 1 = nI t) : LI γ (wset (wset (wset W2 10 M') 11 P') 15 (upd (W2.1 15) 0 (nI u'))) c :=
  li_mk h (fun b hb => by rw [ws_ne _ _ (by omega), ws_ne _ _ (by omega), ws_ne _ _ (by omega)]) rfl rfl rfl (by rw [ws_ne _ _ (by decide), ws_ne _ _ (by decide), ws_ne _ _ (by decide)]; exact hr 13 (by decide)) (by rw [ws_ne _ _ (by decide), ws_ne _ _ (by decide), ws_same]) (by rw [ws_ne _ _ (by decide), ws_same]) (by rw [ws_same, pk_us]) (by rw [ws_same, pk_un (by decide), hr 15 (by decide)]; exact r4)
/-- what only the reference has put aside -/
theorem li_aft {γ : Gm} {W W2 : Wd} {c : Nat} {M P : Nat → Int32} {u t cn q tm : Nat} {G : Nat → Int32} {x : Int64} (h : CI γ W2 c M P (W.1 13) u t cn q tm) (hr : RB W W2) (r1 : W.1 10 = M) (r2 : W.1 11 = P) (r3 : W.1 15 0 = nI u) (r4 : W.1 15 1 = nI t) : LI γ W2 c ∧ LI γ (wset W2 12 G) c ∧ LI γ (wha (wset W2 12 G) x) c := by
  have e13 := hr 13 (by decide)
  have e10 := (hr 10 (by decide)).trans r1
  have e11 := (hr 11 (by decide)).trans r2
  have eu := (congrFun (hr 15 (by decide)) 0).trans r3
  have et := (congrFun (hr 15 (by decide)) 1).trans r4
  refine ⟨li_mk h (fun _ _ => rfl) rfl rfl rfl e13 e10 e11 eu et, li_mk h (fun b hb => ws_ne _ _ (by omega)) rfl rfl rfl ?_ ?_ ?_ ?_ ?_, li_mk h (fun b hb => ws_ne _ _ (by omega)) rfl rfl rfl ?_ ?_ ?_ ?_ ?_⟩
  · exact (ws_ne _ _ (by decide)).trans e13
  · exact (ws_ne _ _ (by decide)).trans e10
  · exact (ws_ne _ _ (by decide)).trans e11
  · exact (congrFun (ws_ne _ _ (by decide)) 0).trans eu
  · exact (congrFun (ws_ne _ _ (by decide)) 1).trans et
  · exact (ws_ne W2 (b := 12) (c := 13) G (by decide)).trans e13
  · exact (ws_ne W2 (b := 12) (c := 10) G (by decide)).trans e10
  · exact (ws_ne W2 (b := 12) (c := 11) G (by decide)).trans e11
  · exact (congrFun (ws_ne W2 (b := 12) (c := 15) G (by decide)) 0).trans eu
  · exact (congrFun (ws_ne W2 (b := 12) (c := 15) G (by decide)) 1).trans et
/-- the reference has read its text -/
theorem li_rd {γ : Gm} {W W2 : Wd} {c : Nat} {M P : Nat → Int32} {u t cn q tm : Nat} {G : Nat → Int32} {x : Int32} {pp : Rd} (h : CI γ W2 c M P (W.1 13) u t cn q tm) (hr : RB W W2) (r1 : W.1 10 = M) (r2 : W.1 11 = P) (r3 : W.1 15 0 = nI u) (r4 : W.1 15 1 = nI t) : LI γ (wset (wset W2 14 G) 15 (st (upd (W2.1 15) 2 x) pp)) c :=
  li_mk h (fun b hb => by rw [ws_ne _ _ (by omega), ws_ne _ _ (by omega)]) rfl rfl rfl (by rw [ws_ne _ _ (by decide), ws_ne _ _ (by decide)]; exact hr 13 (by decide)) (by rw [ws_ne _ _ (by decide), ws_ne _ _ (by decide)]; exact (hr 10 (by decide)).trans r1) (by rw [ws_ne _ _ (by decide), ws_ne _ _ (by decide)]; exact (hr 11 (by decide)).trans r2) (by rw [ws_same, st_o _ _ (by decide) (by decide), pk_un (by decide), hr 15 (by decide)]; exact r3) (by rw [ws_same, st_o _ _ (by decide) (by decide), pk_un (by decide), hr 15 (by decide)]; exact r4)
theorem li_ord {γ : Gm} {W W2 : Wd} {c : Nat} {M' P' : Nat → Int32} {u' t cn q tm : Nat} {G : Nat → Int32} {x : Int32} {pp : Rd} (h : CI γ W2 c M' P' (W.1 13) u' t cn q tm) (hr : RB W W2) (r4 : W.1 15 1 = nI t) : LI γ (wset (wset (wset (wset W2 10 M') 11 P') 14 G) 15 (upd (st (upd (W2.1 15) 2 x) pp) 0 (nI u'))) c :=
  li_mk h (fun b hb => by rw [ws_ne _ _ (by omega), ws_ne _ _ (by omega), ws_ne _ _ (by omega), ws_ne _ _ (by omega)]) rfl rfl rfl (by rw [ws_ne _ _ (by decide), ws_ne _ _ (by decide), ws_ne _ _ (by decide), ws_ne _ _ (by decide)]; exact hr 13 (by decide)) (by rw [ws_ne _ _ (by decide), ws_ne _ _ (by decide), ws_ne _ _ (by decide), ws_same]) (by rw [ws_ne _ _ (by decide), ws_ne _ _ (by decide), ws_same]) (by rw [ws_same, pk_us]) (by rw [ws_same, pk_un (by decide), st_o _ _ (by decide) (by decide), pk_un (by decide), hr 15 (by decide)]; exact r4)
theorem li_und {γ : Gm} {W W2 : Wd} {c : Nat} {M' P : Nat → Int32} {u' t cn q tm : Nat} (h : CI γ W2 c M' P (W.1 13) u' t cn q tm) (hr : RB W W2) (r2 : W.1 11 = P) (r4 : W.1 15 1 = nI t) : LI γ (wset (wset W2 10 M') 15 (upd (W2.1 15) 0 (nI u'))) c :=
  li_mk h (fun b hb => by rw [ws_ne _ _ (by omega), ws_ne _ _ (by omega)]) rfl rfl rfl (by rw [ws_ne _ _ (by decide), ws_ne _ _ (by decide)]; exact hr 13 (by decide)) (by rw [ws_ne _ _ (by decide), ws_same]) (by rw [ws_ne _ _ (by decide), ws_ne _ _ (by decide)]; exact (hr 11 (by decide)).trans r2) (by rw [ws_same, pk_us]) (by rw [ws_same, pk_un (by decide), hr 15 (by decide)]; exact r4)
theorem li_typ {γ : Gm} {W W2 : Wd} {c : Nat} {M P T' : Nat → Int32} {u t' cn q tm : Nat} (h : CI γ W2 c M P T' u t' cn q tm) (hr : RB W W2) (r1 : W.1 10 = M) (r2 : W.1 11 = P) (r3 : W.1 15 0 = nI u) : LI γ (wset (wset W2 13 T') 15 (upd (W2.1 15) 1 (nI t'))) c :=
  li_mk h (fun b hb => by rw [ws_ne _ _ (by omega), ws_ne _ _ (by omega)]) rfl rfl rfl (by rw [ws_ne _ _ (by decide), ws_same]) (by rw [ws_ne _ _ (by decide), ws_ne _ _ (by decide)]; exact (hr 10 (by decide)).trans r1) (by rw [ws_ne _ _ (by decide), ws_ne _ _ (by decide)]; exact (hr 11 (by decide)).trans r2) (by rw [ws_same, pk_un (by decide), hr 15 (by decide)]; exact r3) (by rw [ws_same, pk_us])
theorem li_clr {γ : Gm} {W W2 : Wd} {c : Nat} {M P : Nat → Int32} {u t' cn q tm : Nat} (h : CI γ W2 c M P (W.1 13) u t' cn q tm) (hr : RB W W2) (r1 : W.1 10 = M) (r2 : W.1 11 = P) (r3 : W.1 15 0 = nI u) : LI γ (wset W2 15 (upd (W2.1 15) 1 (nI t'))) c :=
  li_mk h (fun b hb => ws_ne _ _ (by omega)) rfl rfl rfl ((ws_ne _ _ (by decide)).trans (hr 13 (by decide))) ((ws_ne _ _ (by decide)).trans ((hr 10 (by decide)).trans r1)) ((ws_ne _ _ (by decide)).trans ((hr 11 (by decide)).trans r2)) (by rw [ws_same, pk_un (by decide), hr 15 (by decide)]; exact r3) (by rw [ws_same, pk_us])
theorem if4p {A B C D : Prop} [Decidable A] [Decidable B] [Decidable C] [Decidable D] {α : Type} {x y : α} (h : A ∧ B ∧ C ∧ D) : (if A then (if B then (if C then (if D then x else y) else y) else y) else y) = x := by rw [if_pos h.1, if_pos h.2.1, if_pos h.2.2.1, if_pos h.2.2.2]
theorem if4n {A B C D : Prop} [Decidable A] [Decidable B] [Decidable C] [Decidable D] {α : Type} {x y : α} (h : ¬ (A ∧ B ∧ C ∧ D)) : (if A then (if B then (if C then (if D then x else y) else y) else y) else y) = y := by
  by_cases a : A
  · rw [if_pos a]
    exact if3n fun b => h ⟨a, b⟩
  · rw [if_neg a]
theorem sub4 {L m : Nat} (hL : L ≤ 2048) (hm : m ≤ 2048) : nI L - nI 4 < nI m ↔ L < m + 4 := by
  have e : (nI L - nI 4).toInt = _ := i_sub (by rw [i_nI (by omega), i_nI (by omega)]; omega) (by rw [i_nI (by omega), i_nI (by omega)]; omega)
  rw [i_lt, e, i_nI (by omega), i_nI (by omega), i_nI (by omega)]; omega
theorem inc4 (i : Nat) : nI (4 * i) + Int32.ofInt 4 = nI (4 * (i + 1)) := by
  rw [show Int32.ofInt 4 = nI 4 from by decide, nI_add]; rfl
theorem cmp_0 (x : Int64) : lg_cmp x x = 0 := by
  unfold lg_cmp
  rw [if_neg (show ¬ x > x from Int64.lt_irrefl), if_pos rfl]
theorem v_sld {p : Program} {l : Launch} {e : Env} {R : Room} {s : State} {m : MethodId} {args : Array Value} {below : List Frame} {meth : Method} {c : Code} {γ : Gm} {Q : State → Prop} {y : MethodName} {cc : ByteArray} {nL : Nat} {ret : Option FieldType} {h : HP} {k j pc : Nat} {L : List (Option Value)} {st : List Value} (X : Cx p s m args meth c γ y cc nL ret) {b N : Nat} {xs : Nat → Int32} (hX : va_X b N xs s s.heap) (hb : b < s.heap.size) (hA : ¬ Ag γ b) {x : Int32} (i : Nat) (hx : x = nI i) (hi : i < N) (hN : N < 2 ^ 31) (d : decode cc pc = .ok (.iaload, 1)) (kk : V p l e R s m args below meth c γ Q h k j (pc + 1) L (.int (xs i) :: st)) : V p l e R s m args below meth c γ Q h k j pc L (.int x :: .ref b :: st) := fun H locs ls hh hS hl => by
  subst hx
  refine va_sld X.1 X.2.1 hX hb hA hS (by unfold vp_in; rw [nI_clamp (by omega)]; exact fun z => z.elim (nI_pos (by omega)) (by omega)) d ?_
  rw [nI_clamp (by omega)]
  exact kk H locs ls hh hS hl
theorem v_slen {p : Program} {l : Launch} {e : Env} {R : Room} {s : State} {m : MethodId} {args : Array Value} {below : List Frame} {meth : Method} {c : Code} {γ : Gm} {Q : State → Prop} {y : MethodName} {cc : ByteArray} {nL : Nat} {ret : Option FieldType} {h : HP} {k j pc : Nat} {L : List (Option Value)} {st : List Value} (X : Cx p s m args meth c γ y cc nL ret) {b N : Nat} {xs : Nat → Int32} (hX : va_X b N xs s s.heap) (hb : b < s.heap.size) (hA : ¬ Ag γ b) (d : decode cc pc = .ok (.arraylength, 1)) (kk : V p l e R s m args below meth c γ Q h k j (pc + 1) L (.int (nI N) :: st)) : V p l e R s m args below meth c γ Q h k j pc L (.ref b :: st) := fun H locs ls hh hS hl => va_slen X.1 X.2.1 hX hb hA hS d (kk H locs ls hh hS hl)
