/-! the text constants, and the text's own small steps -/
def slen (i : Nat) : Nat := [1, 3, 3, 1].getD i 0
def sby (i j : Nat) : Int32 := (([[64], [111, 99, 118], [108, 109, 114], [59]] : List (List Int32)).getD i []).getD j 0
theorem cx_S {p : Program} {s : State} {m : MethodId} {args : Array Value} {meth : Method} {c : Code} {γ : Gm} {y : MethodName} {cc : ByteArray} {nL : Nat} {ret : Option FieldType} (X : Cx p s m args meth c γ y cc nL ret) {i : Nat} (hi : i < 4) : va_O "java/lang/String" (γ.2.2.2 (10 + i)) (Ag γ) s s.heap ∧ va_OF "java/lang/String" "coder" "B" (.int 0) (γ.2.2.2 (10 + i)) (Ag γ) s s.heap ∧ va_OF "java/lang/String" "value" "[B" (.ref (γ.2.2.2 (20 + i))) (γ.2.2.2 (10 + i)) (Ag γ) s s.heap ∧ va_T .byte (γ.2.2.2 (20 + i)) (slen i) (fun j => .int (sby i j)) (Ag γ) s s.heap := (cx_env X).2.2.1.2.2.2.2.1 i hi
theorem cx_CS {p : Program} {s : State} {m : MethodId} {args : Array Value} {meth : Method} {c : Code} {γ : Gm} {y : MethodName} {cc : ByteArray} {nL : Nat} {ret : Option FieldType} (X : Cx p s m args meth c γ y cc nL ret) : va_Z "java/lang/String" "COMPACT_STRINGS" "Z" (.int 1) (Ag γ) s s.heap := (cx_env X).2.2.1.2.2.2.1
theorem sl_b : ∀ i, i < 4 → 1 ≤ slen i ∧ slen i ≤ 3 := by decide
theorem sl_sh : ∀ i, i < 4 → (nI (slen i) >>> ((0 : Int32) &&& 31)) = nI (slen i) := by decide +kernel
theorem c_i2b : ∀ c, c < 128 → (nI c).toInt8.toInt32 = nI c := by decide +kernel
theorem c_i2c : ∀ c, c < 128 → ((nI c).toUInt32 % 65536).toInt32 = nI c := by decide +kernel
def s_ixF (i : Nat) (x : Int32) : Nat → Nat → Int32
  | 0, _ => (-1)
  | f + 1, j => if sby i j = x then nI j else s_ixF i x f (j + 1)
def s_ix (i : Nat) (x : Int32) : Int32 := s_ixF i x (slen i) 0
set_option maxHeartbeats 4000000 in
set_option maxRecDepth 100000 in
theorem c_J0_coder_7d493 (l : Launch) (γ : Gm) (h : HP) (i : Nat) (hi : i < 4) : Cr l γ yJ0_coder_7d493 cJ0_coder_7d493 1 (some .byte) 0 0 0 0 [.ref (γ.2.2.2 (10 + i))] (h) (Det (some (.int 0)) h) := by
  refine Cr_of [some (.ref (γ.2.2.2 (10 + i)))] (by decide +kernel) (Nat.le_of_ble_eq_true rfl) rfl ?_
  intro p e s m args below meth c X
  refine v_q0 (fun Q0 hQ0 => ?_)
  refine v_gets X (cx_CS X) gs_J0_38 dJ0_coder_7d493_0 ?_
  refine v_if_eq_f (tgt := 13) X dJ0_coder_7d493_3 (by decide) (by decide) ?_
  refine v_aload_n X rfl dJ0_coder_7d493_6 ?_
  refine v_sget X ((cx_S X hi).2.1) sf_J0_15 dJ0_coder_7d493_7 ?_
  refine v_goto (tgt := 14) X dJ0_coder_7d493_10 (by decide) ?_
  subst hQ0
  exact v_zret X rfl rfl (Nat.le_of_ble_eq_true rfl) (Nat.le_of_ble_eq_true rfl) dJ0_coder_7d493_14 ⟨rfl, rfl⟩
set_option maxHeartbeats 4000000 in
set_option maxRecDepth 100000 in
theorem c_J0_isLatin1_aae02 (l : Launch) (γ : Gm) (h : HP) (i : Nat) (hi : i < 4) : Cr l γ yJ0_isLatin1_aae02 cJ0_isLatin1_aae02 1 (some .boolean) 0 0 0 0 [.ref (γ.2.2.2 (10 + i))] (h) (Det (some (.int (nI 1))) h) := by
  refine Cr_of [some (.ref (γ.2.2.2 (10 + i)))] (by decide +kernel) (Nat.le_of_ble_eq_true rfl) rfl ?_
  intro p e s m args below meth c X
  refine v_q0 (fun Q0 hQ0 => ?_)
  refine v_gets X (cx_CS X) gs_J0_38 dJ0_isLatin1_aae02_0 ?_
  refine v_if_eq_f (tgt := 17) X dJ0_isLatin1_aae02_3 (by decide) (by decide) ?_
  refine v_aload_n X rfl dJ0_isLatin1_aae02_6 ?_
  refine v_sget X ((cx_S X hi).2.1) sf_J0_15 dJ0_isLatin1_aae02_7 ?_
  refine v_if_ne_f (tgt := 17) X dJ0_isLatin1_aae02_10 (by decide) (by decide) ?_
  refine v_iconst' X kc_1 dJ0_isLatin1_aae02_13 ?_
  refine v_goto (tgt := 18) X dJ0_isLatin1_aae02_14 (by decide) ?_
  subst hQ0
  exact v_zret X rfl rfl (Nat.le_of_ble_eq_true rfl) (Nat.le_of_ble_eq_true rfl) dJ0_isLatin1_aae02_18 ⟨rfl, rfl⟩
set_option maxHeartbeats 4000000 in
set_option maxRecDepth 100000 in
theorem c_J0_length_8abf5 (l : Launch) (γ : Gm) (h : HP) (i : Nat) (hi : i < 4) : Cr l γ yJ0_length_8abf5 cJ0_length_8abf5 1 (some .int) 1 20 0 0 [.ref (γ.2.2.2 (10 + i))] (h) (Det (some (.int (nI (slen i)))) h) := by
  refine Cr_of [some (.ref (γ.2.2.2 (10 + i)))] (by decide +kernel) (Nat.le_of_ble_eq_true rfl) rfl ?_
  intro p e s m args below meth c X
  refine v_q0 (fun Q0 hQ0 => ?_)
  refine v_aload_n X rfl dJ0_length_8abf5_0 ?_
  refine v_sget X ((cx_S X hi).2.2.1) sf_J0_9 dJ0_length_8abf5_1 ?_
  refine v_tlen X (cx_S X hi).2.2.2 dJ0_length_8abf5_4 ?_
  refine v_aload_n X rfl dJ0_length_8abf5_5 ?_
  refine v_callT X mv_J0_335 (c_J0_coder_7d493 l γ _ i hi) ((cx_S X hi).1) rfl ⟨Nat.le_of_ble_eq_true rfl, Nat.le_of_ble_eq_true rfl, Nat.le_of_ble_eq_true rfl, Nat.le_of_ble_eq_true rfl⟩ (Nat.le_of_ble_eq_true rfl) rfl dJ0_length_8abf5_6 rfl (det_i ?_)
  refine v_ishr X dJ0_length_8abf5_9 ?_
  subst hQ0
  exact v_iret X rfl (Nat.le_of_ble_eq_true rfl) (Nat.le_of_ble_eq_true rfl) dJ0_length_8abf5_10 ⟨so_some (sl_sh i hi), rfl⟩
set_option maxHeartbeats 4000000 in
set_option maxRecDepth 100000 in
theorem c_J1_canEncode_9a6ad (l : Launch) (γ : Gm) (h : HP) (c0 : Nat) (hc : c0 < 128) : Cr l γ yJ1_canEncode_9a6ad cJ1_canEncode_9a6ad 1 (some .boolean) 0 0 0 0 [.int (nI c0)] (h) (Det (some (.int (nI 1))) h) := by
  refine Cr_of [some (.int (nI c0))] (by decide +kernel) (Nat.le_of_ble_eq_true rfl) rfl ?_
  intro p e s m args below meth c X
  refine v_q0 (fun Q0 hQ0 => ?_)
  refine v_iload_n X rfl dJ1_canEncode_9a6ad_0 ?_
  refine v_if_lt_n (tgt := 15) X dJ1_canEncode_9a6ad_1 (by decide) (by omega) ?_
  refine v_iload_n X rfl dJ1_canEncode_9a6ad_4 ?_
  refine v_sipush' X ks_255 dJ1_canEncode_9a6ad_5 ?_
  refine v_icmp_gt_n (tgt := 15) X dJ1_canEncode_9a6ad_8 (by decide) (by omega) (by omega) (fun q1 => ?_) (fun q1 => ?_)
  · exact absurd q1 (by omega)
  · refine v_iconst' X kc_1 dJ1_canEncode_9a6ad_11 ?_
    refine v_goto (tgt := 16) X dJ1_canEncode_9a6ad_12 (by decide) ?_
    subst hQ0
    exact v_zret X rfl rfl (Nat.le_of_ble_eq_true rfl) (Nat.le_of_ble_eq_true rfl) dJ1_canEncode_9a6ad_16 ⟨rfl, rfl⟩
set_option maxHeartbeats 4000000 in
set_option maxRecDepth 100000 in
theorem c_J1_indexOfChar_4cfef (l : Launch) (γ : Gm) (h : HP) (i : Nat) (hi : i < 4) (c0 : Nat) (hc : c0 < 128) : Cr l γ yJ1_indexOfChar_4cfef cJ1_indexOfChar_4cfef 6 (some .int) 0 0 0 0 [.ref (γ.2.2.2 (20 + i)), .int (nI c0), .int (nI 0), .int (nI (slen i))] (h) (Det (some (.int (s_ix i (nI c0)))) h) := by
  refine Cr_of [some (.ref (γ.2.2.2 (20 + i))), some (.int (nI c0)), some (.int (nI 0)), some (.int (nI (slen i))), none, none] (by decide +kernel) (Nat.le_of_ble_eq_true rfl) rfl ?_
  intro p e s m args below meth c X
  refine v_q0 (fun Q0 hQ0 => ?_)
  have hs := sl_b i hi
  refine v_iload_n X rfl dJ1_indexOfChar_4cfef_0 ?_
  refine v_i2b X dJ1_indexOfChar_4cfef_1 ?_
  rw [c_i2b c0 hc]
  refine v_istore X (Nat.le_of_ble_eq_true rfl) rfl dJ1_indexOfChar_4cfef_2 ?_
  refine v_iload_n X rfl dJ1_indexOfChar_4cfef_4 ?_
  refine v_istore X (Nat.le_of_ble_eq_true rfl) rfl dJ1_indexOfChar_4cfef_5 ?_
  have lp7 : ∀ (n : Nat) (j : Nat), j ≤ slen i ∧ slen i + 1 ≤ j + n → s_ixF i (nI c0) (slen i - j) j = s_ix i (nI c0) → V p l e { frames := 0, cells := 0, slots := 0, locals := 0 } s m args below meth c γ Q0 (h) 0 0 7 [some (.ref (γ.2.2.2 (20 + i))), some (.int (nI c0)), some (.int (nI 0)), some (.int (nI (slen i))), some (.int (nI c0)), some (.int (nI j))] [] := by
    intro n
    induction n with
    | zero =>
      intro j hbd
      exact absurd hbd (by omega)
    | succ n ih =>
      intro j hbd hF
      refine v_iload X rfl dJ1_indexOfChar_4cfef_7 ?_
      refine v_iload_n X rfl dJ1_indexOfChar_4cfef_9 ?_
      refine v_icmp_ge_n (tgt := 31) X dJ1_indexOfChar_4cfef_10 (by decide) (by omega) (by omega) (fun q1 => ?_) (fun q1 => ?_)
      · rw [show slen i - j = 0 by omega] at hF
        refine v_iconst' X kc_m1 dJ1_indexOfChar_4cfef_31 ?_
        subst hQ0
        exact v_iret X rfl (Nat.le_of_ble_eq_true rfl) (Nat.le_of_ble_eq_true rfl) dJ1_indexOfChar_4cfef_32 ⟨so_some (by first | exact hF3 | exact hF), rfl⟩
      · rw [show slen i - j = (slen i - (j + 1)) + 1 by omega] at hF
        refine v_aload_n X rfl dJ1_indexOfChar_4cfef_13 ?_
        refine v_iload X rfl dJ1_indexOfChar_4cfef_14 ?_
        refine v_tbald X (cx_S X hi).2.2.2 j rfl (by omega) (by omega) rfl dJ1_indexOfChar_4cfef_16 ?_
        refine v_iload X rfl dJ1_indexOfChar_4cfef_17 ?_
        refine v_icmp_ne (tgt := 25) X dJ1_indexOfChar_4cfef_19 (by decide) (fun q2 => ?_) (fun q2 => ?_)
        · have hF2 : s_ixF i (nI c0) (slen i - (j + 1)) (j + 1) = s_ix i (nI c0) := by rw [← hF]; exact (if_neg q2).symm
          refine v_iinc' X rfl rfl (nI_inc _) dJ1_indexOfChar_4cfef_25 ?_
          refine v_goto (tgt := 7) X dJ1_indexOfChar_4cfef_28 (by decide) ?_
          exact (ih (j + 1) ⟨by omega, by omega⟩ hF2)
        · have hF3 : nI j = s_ix i (nI c0) := by rw [← hF]; exact (if_pos q2).symm
          refine v_iload X rfl dJ1_indexOfChar_4cfef_22 ?_
          subst hQ0
          exact v_iret X rfl (Nat.le_of_ble_eq_true rfl) (Nat.le_of_ble_eq_true rfl) dJ1_indexOfChar_4cfef_24 ⟨so_some (by first | exact hF3 | exact hF), rfl⟩
  exact (lp7 (slen i + 1) 0 ⟨by omega, by omega⟩ rfl)
set_option maxHeartbeats 4000000 in
set_option maxRecDepth 100000 in
theorem c_J1_indexOf_4cfef (l : Launch) (γ : Gm) (h : HP) (i : Nat) (hi : i < 4) (c0 : Nat) (hc : c0 < 128) : Cr l γ yJ1_indexOf_4cfef cJ1_indexOf_4cfef 4 (some .int) 1 25 0 0 [.ref (γ.2.2.2 (20 + i)), .int (nI c0), .int (nI 0), .int (nI (slen i))] (h) (Det (some (.int (s_ix i (nI c0)))) h) := by
  refine Cr_of [some (.ref (γ.2.2.2 (20 + i))), some (.int (nI c0)), some (.int (nI 0)), some (.int (nI (slen i)))] (by decide +kernel) (Nat.le_of_ble_eq_true rfl) rfl ?_
  intro p e s m args below meth c X
  refine v_q0 (fun Q0 hQ0 => ?_)
  have hs := sl_b i hi
  refine v_iload_n X rfl dJ1_indexOf_4cfef_0 ?_
  refine v_callS X ms_J1_88 (c_J1_canEncode_9a6ad l γ _ c0 hc) rfl ⟨Nat.le_of_ble_eq_true rfl, Nat.le_of_ble_eq_true rfl, Nat.le_of_ble_eq_true rfl, Nat.le_of_ble_eq_true rfl⟩ (Nat.le_of_ble_eq_true rfl) rfl dJ1_indexOf_4cfef_1 rfl (det_i ?_)
  refine v_if_ne_t (tgt := 9) X dJ1_indexOf_4cfef_4 (by decide) (by decide) ?_
  refine v_iload_n X rfl dJ1_indexOf_4cfef_9 ?_
  refine v_iconst' X kc_0 dJ1_indexOf_4cfef_10 ?_
  refine v_mmax X mm_J1_92 (Nat.le_of_ble_eq_true rfl) (Nat.le_of_ble_eq_true rfl) (Nat.le_of_ble_eq_true rfl) (Nat.le_of_ble_eq_true rfl) rfl dJ1_indexOf_4cfef_11 ?_
  rw [ite_self]
  refine v_istore_n X (Nat.le_of_ble_eq_true rfl) rfl dJ1_indexOf_4cfef_14 ?_
  refine v_iload_n X rfl dJ1_indexOf_4cfef_15 ?_
  refine v_aload_n X rfl dJ1_indexOf_4cfef_16 ?_
  refine v_tlen X (cx_S X hi).2.2.2 dJ1_indexOf_4cfef_17 ?_
  refine v_mmin X mm_J1_38 (Nat.le_of_ble_eq_true rfl) (Nat.le_of_ble_eq_true rfl) (Nat.le_of_ble_eq_true rfl) (Nat.le_of_ble_eq_true rfl) rfl dJ1_indexOf_4cfef_18 ?_
  rw [ite_self]
  refine v_istore_n X (Nat.le_of_ble_eq_true rfl) rfl dJ1_indexOf_4cfef_21 ?_
  refine v_iload_n X rfl dJ1_indexOf_4cfef_22 ?_
  refine v_iload_n X rfl dJ1_indexOf_4cfef_23 ?_
  refine v_icmp_lt_n (tgt := 29) X dJ1_indexOf_4cfef_24 (by decide) (by omega) (by omega) (fun q1 => ?_) (fun q1 => ?_)
  · refine v_aload_n X rfl dJ1_indexOf_4cfef_29 ?_
    refine v_iload_n X rfl dJ1_indexOf_4cfef_30 ?_
    refine v_iload_n X rfl dJ1_indexOf_4cfef_31 ?_
    refine v_iload_n X rfl dJ1_indexOf_4cfef_32 ?_
    refine v_callS X ms_J1_95 (c_J1_indexOfChar_4cfef l γ _ i hi c0 hc) rfl ⟨Nat.le_of_ble_eq_true rfl, Nat.le_of_ble_eq_true rfl, Nat.le_of_ble_eq_true rfl, Nat.le_of_ble_eq_true rfl⟩ (Nat.le_of_ble_eq_true rfl) rfl dJ1_indexOf_4cfef_33 rfl (det_i ?_)
    subst hQ0
    exact v_iret X rfl (Nat.le_of_ble_eq_true rfl) (Nat.le_of_ble_eq_true rfl) dJ1_indexOf_4cfef_36 ⟨rfl, rfl⟩
  · exact absurd q1 (by omega)
set_option maxHeartbeats 4000000 in
set_option maxRecDepth 100000 in
theorem c_J0_indexOf_7cf53 (l : Launch) (γ : Gm) (h : HP) (i : Nat) (hi : i < 4) (c0 : Nat) (hc : c0 < 128) : Cr l γ yJ0_indexOf_7cf53 cJ0_indexOf_7cf53 3 (some .int) 5 116 0 0 [.ref (γ.2.2.2 (10 + i)), .int (nI c0), .int (nI 0)] (h) (Det (some (.int (s_ix i (nI c0)))) h) := by
  refine Cr_of [some (.ref (γ.2.2.2 (10 + i))), some (.int (nI c0)), some (.int (nI 0))] (by decide +kernel) (Nat.le_of_ble_eq_true rfl) rfl ?_
  intro p e s m args below meth c X
  refine v_q0 (fun Q0 hQ0 => ?_)
  refine v_aload_n X rfl dJ0_indexOf_7cf53_0 ?_
  refine v_callT X mv_J0_492 (c_J0_isLatin1_aae02 l γ _ i hi) ((cx_S X hi).1) rfl ⟨Nat.le_of_ble_eq_true rfl, Nat.le_of_ble_eq_true rfl, Nat.le_of_ble_eq_true rfl, Nat.le_of_ble_eq_true rfl⟩ (Nat.le_of_ble_eq_true rfl) rfl dJ0_indexOf_7cf53_1 rfl (det_i ?_)
  refine v_if_eq_f (tgt := 23) X dJ0_indexOf_7cf53_4 (by decide) (by decide) ?_
  refine v_aload_n X rfl dJ0_indexOf_7cf53_7 ?_
  refine v_sget X ((cx_S X hi).2.2.1) sf_J0_9 dJ0_indexOf_7cf53_8 ?_
  refine v_iload_n X rfl dJ0_indexOf_7cf53_11 ?_
  refine v_iload_n X rfl dJ0_indexOf_7cf53_12 ?_
  refine v_aload_n X rfl dJ0_indexOf_7cf53_13 ?_
  refine v_callT X mv_J0_505 (c_J0_length_8abf5 l γ _ i hi) ((cx_S X hi).1) rfl ⟨Nat.le_of_ble_eq_true rfl, Nat.le_of_ble_eq_true rfl, Nat.le_of_ble_eq_true rfl, Nat.le_of_ble_eq_true rfl⟩ (Nat.le_of_ble_eq_true rfl) rfl dJ0_indexOf_7cf53_14 rfl (det_i ?_)
  refine v_callS X ms_J0_637 (c_J1_indexOf_4cfef l γ _ i hi c0 hc) rfl ⟨Nat.le_of_ble_eq_true rfl, Nat.le_of_ble_eq_true rfl, Nat.le_of_ble_eq_true rfl, Nat.le_of_ble_eq_true rfl⟩ (Nat.le_of_ble_eq_true rfl) rfl dJ0_indexOf_7cf53_17 rfl (det_i ?_)
  refine v_goto (tgt := 36) X dJ0_indexOf_7cf53_20 (by decide) ?_
  subst hQ0
  exact v_iret X rfl (Nat.le_of_ble_eq_true rfl) (Nat.le_of_ble_eq_true rfl) dJ0_indexOf_7cf53_36 ⟨rfl, rfl⟩
set_option maxHeartbeats 4000000 in
set_option maxRecDepth 100000 in
theorem c_J0_indexOf_0f7a4 (l : Launch) (γ : Gm) (h : HP) (i : Nat) (hi : i < 4) (c0 : Nat) (hc : c0 < 128) : Cr l γ yJ0_indexOf_0f7a4 cJ0_indexOf_0f7a4 2 (some .int) 6 138 0 0 [.ref (γ.2.2.2 (10 + i)), .int (nI c0)] (h) (Det (some (.int (s_ix i (nI c0)))) h) := by
  refine Cr_of [some (.ref (γ.2.2.2 (10 + i))), some (.int (nI c0))] (by decide +kernel) (Nat.le_of_ble_eq_true rfl) rfl ?_
  intro p e s m args below meth c X
  refine v_q0 (fun Q0 hQ0 => ?_)
  refine v_aload_n X rfl dJ0_indexOf_0f7a4_0 ?_
  refine v_iload_n X rfl dJ0_indexOf_0f7a4_1 ?_
  refine v_iconst' X kc_0 dJ0_indexOf_0f7a4_2 ?_
  refine v_callT X mv_J0_633 (c_J0_indexOf_7cf53 l γ _ i hi c0 hc) ((cx_S X hi).1) rfl ⟨Nat.le_of_ble_eq_true rfl, Nat.le_of_ble_eq_true rfl, Nat.le_of_ble_eq_true rfl, Nat.le_of_ble_eq_true rfl⟩ (Nat.le_of_ble_eq_true rfl) rfl dJ0_indexOf_0f7a4_3 rfl (det_i ?_)
  subst hQ0
  exact v_iret X rfl (Nat.le_of_ble_eq_true rfl) (Nat.le_of_ble_eq_true rfl) dJ0_indexOf_0f7a4_6 ⟨rfl, rfl⟩
/-- where the class's reading stands, and its fault -/
def ct (S : Nat → Int32) (p : Rd) : Nat → Int32 := upd (upd S 61 p.2) 62 (nI p.1)
theorem ct_61 (S : Nat → Int32) (p : Rd) : ct S p 61 = p.2 := by unfold ct; rw [pk_un (by decide), pk_us]
theorem ct_62 (S : Nat → Int32) (p : Rd) : ct S p 62 = nI p.1 := by unfold ct; rw [pk_us]
theorem ct_o (S : Nat → Int32) (p : Rd) {j : Nat} (h : j ≠ 61) (h2 : j ≠ 62) : ct S p j = S j := by unfold ct; rw [pk_un h2, pk_un h]
theorem ct_u62 (S : Nat → Int32) (p : Rd) (a : Nat) : upd (ct S p) 62 (nI a) = ct S (a, p.2) := by unfold ct; rw [upd_upd]
theorem ct_u61 (S : Nat → Int32) (p : Rd) (x : Int32) : upd (ct S p) 61 x = ct S (p.1, x) := by
  funext j
  by_cases h : j = 61
  · subst h; rw [pk_us, ct_61]
  · rw [pk_un h]
    by_cases h4 : j = 62
    · subst h4; rw [ct_62, ct_62]
    · rw [ct_o S p h h4, ct_o S _ h h4]
theorem ct_ct (S : Nat → Int32) (p q : Rd) : ct (ct S p) q = ct S q := by
  show upd (upd (ct S p) 61 q.2) 62 (nI q.1) = _
  rw [ct_u61, ct_u62]
theorem ct_of {S : Nat → Int32} {a : Nat} {f : Int32} (h3 : S 62 = nI a) (h4 : S 61 = f) : ct S (a, f) = S := by unfold ct; rw [upd_same h4, upd_same h3]
theorem t_nx_lt {T : Nat → Int32} {n a : Nat} (h : a < n) : t_nx T n a = T a := if_neg (by omega)
theorem m1_ne32 : ¬ ((-1 : Int32) = nI 32) := by decide
set_option maxHeartbeats 4000000 in
set_option maxRecDepth 100000 in
theorem c_X3_isDigit (l : Launch) (γ : Gm) (h : HP) (x : Int32) : Cr l γ yX3_isDigit cX3_isDigit 1 (some .boolean) 1 22 0 0 [.int x] (h) (Det (some (.int (bi (¬ x < nI 48 ∧ ¬ nI 57 < x)))) h) := by
  refine Cr_of [some (.int x)] (by decide +kernel) (Nat.le_of_ble_eq_true rfl) rfl ?_
  intro p e s m args below meth c X
  refine v_q0 (fun Q0 hQ0 => ?_)
  refine v_iload_n X rfl dX3_isDigit_0 ?_
  refine v_bipush' X kb_48 dX3_isDigit_1 ?_
  refine v_bipush' X kb_57 dX3_isDigit_3 ?_
  refine v_callSN X msn_X3_85 (c_X6_isWithin l γ _ _ _ _) rfl ⟨Nat.le_of_ble_eq_true rfl, Nat.le_of_ble_eq_true rfl, Nat.le_of_ble_eq_true rfl, Nat.le_of_ble_eq_true rfl⟩ (Nat.le_of_ble_eq_true rfl) rfl dX3_isDigit_5 rfl (det_i ?_)
  subst hQ0
  exact v_zret X rfl bi_nar (Nat.le_of_ble_eq_true rfl) (Nat.le_of_ble_eq_true rfl) dX3_isDigit_8 ⟨rfl, rfl⟩
set_option maxHeartbeats 4000000 in
set_option maxRecDepth 100000 in
theorem c_X3_byteAt (l : Launch) (γ : Gm) (W : Wd) (S : Nat → Int32) (pp : Rd) (n : Nat) (hn : S 60 = nI n) (h60 : n ≤ 60) (hp : pp.1 ≤ 900) (b : Nat) (hb : b ≤ 910) : Cr l γ yX3_byteAt cX3_byteAt 2 (some .int) 0 0 0 0 [.ref (γ.1 + 1), .int (nI b)] (rdw γ (wset W 8 (ct S pp))) (Det (some (.int (t_nx S n b))) (rdw γ (wset W 8 (ct S pp)))) := by
  refine Cr_of [some (.ref (γ.1 + 1)), some (.int (nI b))] (by decide +kernel) (Nat.le_of_ble_eq_true rfl) rfl ?_
  intro p e s m args below meth c X
  refine v_q0 (fun Q0 hQ0 => ?_)
  refine v_iload_n X rfl dX3_byteAt_0 ?_
  refine v_if_lt_n (tgt := 30) X dX3_byteAt_1 (by decide) (by omega) ?_
  refine v_iload_n X rfl dX3_byteAt_4 ?_
  refine v_aload_n X rfl dX3_byteAt_5 ?_
  refine v_getf X (v := (.int ((wset W 8 (ct S pp)).1 8 60))) fd_X3_15 (rd_Text γ _) rfl dX3_byteAt_6 ?_
  rw [ws_same, ct_o S _ (by decide) (by decide), hn]
  refine v_icmp_ge_n (tgt := 30) X dX3_byteAt_9 (by decide) (by omega) (by omega) (fun q1 => ?_) (fun q1 => ?_)
  · refine v_iconst' X kc_m1 dX3_byteAt_30 ?_
    subst hQ0
    exact v_iret X rfl (Nat.le_of_ble_eq_true rfl) (Nat.le_of_ble_eq_true rfl) dX3_byteAt_31 ⟨so_some (by first | exact (t_nx_ge q1).symm | exact e9), rfl⟩
  · refine v_iload_n X rfl dX3_byteAt_12 ?_
    refine v_aload_n X rfl dX3_byteAt_13 ?_
    refine v_getf X fd_X3_9 (rd_Text γ _) rfl dX3_byteAt_14 ?_
    refine v_alen (t0 := 0) X (rd_Bytes γ _) rfl dX3_byteAt_17 ?_
    refine v_icmp_ge_n (tgt := 30) X dX3_byteAt_18 (by decide) (by omega) (by omega) (fun q2 => ?_) (fun q2 => ?_)
    · exact absurd q2 (by omega)
    · refine v_aload_n X rfl dX3_byteAt_21 ?_
      refine v_getf X fd_X3_9 (rd_Text γ _) rfl dX3_byteAt_22 ?_
      refine v_iload_n X rfl dX3_byteAt_25 ?_
      refine v_iald' X (v := t_nx S n b) (rd_Bytes γ _) b rfl (by omega) (by decide) ((vw_at (by omega)).trans (by rw [ws_same, t_nx_lt (by omega)]; exact ct_o S _ (by unfold f_hts; omega) (by unfold f_hts; omega))) dX3_byteAt_26 ?_
      have e9 : t_nx S n b = t_nx S n b := rfl
      refine v_goto (tgt := 31) X dX3_byteAt_27 (by decide) ?_
      subst hQ0
      exact v_iret X rfl (Nat.le_of_ble_eq_true rfl) (Nat.le_of_ble_eq_true rfl) dX3_byteAt_31 ⟨so_some (by first | exact (t_nx_ge q1).symm | exact e9), rfl⟩
set_option maxHeartbeats 4000000 in
set_option maxRecDepth 100000 in
theorem c_X3_skipBlanks (l : Launch) (γ : Gm) (W : Wd) (S : Nat → Int32) (pp : Rd) (n : Nat) (hn : S 60 = nI n) (h60 : n ≤ 60) (hp : pp.1 ≤ 830) : Cr l γ yX3_skipBlanks cX3_skipBlanks 2 none 1 21 0 0 [.ref (γ.1 + 1)] (rdw γ (wset W 8 (ct S pp))) (Det none (rdw γ (wset W 8 (ct S (t_bl S n pp.1, pp.2))))) := by
  refine Cr_of [some (.ref (γ.1 + 1)), none] (by decide +kernel) (Nat.le_of_ble_eq_true rfl) rfl ?_
  intro p e s m args below meth c X
  refine v_q0 (fun Q0 hQ0 => ?_)
  refine v_iconst' X kc_0 dX3_skipBlanks_0 ?_
  refine v_istore_n X (Nat.le_of_ble_eq_true rfl) rfl dX3_skipBlanks_1 ?_
  have lp2 : ∀ (n9 : Nat) (j a : Nat), j ≤ 60 ∧ 61 ≤ j + n9 ∧ a = pp.1 + j ∧ t_bl S n a = t_bl S n pp.1 → V p l e { frames := 1, cells := 0, slots := 0, locals := 21 } s m args below meth c γ Q0 (rdw γ (wset W 8 (ct S (a, pp.2)))) 0 0 2 [some (.ref (γ.1 + 1)), some (.int (nI j))] [] := by
    intro n9
    induction n9 with
    | zero =>
      intro j a hbd
      exact absurd hbd (by omega)
    | succ n9 ih =>
      intro j a hbd
      refine v_iload_n X rfl dX3_skipBlanks_2 ?_
      refine v_bipush' X kb_60 dX3_skipBlanks_3 ?_
      refine v_icmp_ge_n (tgt := 37) X dX3_skipBlanks_5 (by decide) (by omega) (by omega) (fun q1 => ?_) (fun q1 => ?_)
      · have hx : t_bl S n a = a := t_bl_f (by rw [t_nx_ge (by omega)]; exact m1_ne32)
        subst hQ0
        exact v_vret X rfl (Nat.le_of_ble_eq_true rfl) (Nat.le_of_ble_eq_true rfl) dX3_skipBlanks_37 ⟨rfl, by rw [← hbd.2.2.2, hx]⟩
      · refine v_aload_n X rfl dX3_skipBlanks_8 ?_
        refine v_aload_n X rfl dX3_skipBlanks_9 ?_
        refine v_getf X (v := (.int ((wset W 8 (ct S (a, pp.2))).1 8 62))) fd_X3_29 (rd_Text γ _) rfl dX3_skipBlanks_10 ?_
        rw [ws_same, ct_62]
        refine v_callV (ci := 4) X mv_X3_70 (c_X3_byteAt l γ W S (a, pp.2) n hn h60 (by show a ≤ 900; have := hbd.2.2.1; omega) a (by have := hbd.2.2.1; omega)) rfl rfl (rd_Text γ _) rfl ⟨Nat.le_of_ble_eq_true rfl, Nat.le_of_ble_eq_true rfl, Nat.le_of_ble_eq_true rfl, Nat.le_of_ble_eq_true rfl⟩ (Nat.le_of_ble_eq_true rfl) rfl dX3_skipBlanks_13 rfl (det_i ?_)
        refine v_bipush' X kb_32 dX3_skipBlanks_16 ?_
        refine v_icmp_ne (tgt := 37) X dX3_skipBlanks_18 (by decide) (fun q2 => ?_) (fun q2 => ?_)
        · have hx : t_bl S n a = a := t_bl_f q2
          subst hQ0
          exact v_vret X rfl (Nat.le_of_ble_eq_true rfl) (Nat.le_of_ble_eq_true rfl) dX3_skipBlanks_37 ⟨rfl, by rw [← hbd.2.2.2, hx]⟩
        · refine v_aload_n X rfl dX3_skipBlanks_21 ?_
          refine v_dup X rfl dX3_skipBlanks_22 ?_
          refine v_getf X (v := (.int ((wset W 8 (ct S (a, pp.2))).1 8 62))) fd_X3_29 (rd_Text γ _) rfl dX3_skipBlanks_23 ?_
          rw [ws_same, ct_62]
          refine v_iconst' X kc_1 dX3_skipBlanks_26 ?_
          refine v_iadd' X (nI_add _ _) dX3_skipBlanks_27 ?_
          refine v_putf X fp_X3_29 (rd_Text γ _) rfl rfl (Nat.le_of_ble_eq_true rfl) dX3_skipBlanks_28 ?_
          refine v_eqh (uq_tat γ _ _) ?_
          rw [ws_same, wset_wset, ct_u62]
          refine v_iinc' X rfl rfl (nI_inc _) dX3_skipBlanks_31 ?_
          refine v_goto (tgt := 2) X dX3_skipBlanks_34 (by decide) ?_
          exact (ih (j + 1) (a + 1) ⟨by omega, by omega, by omega, (t_bl_t q2).trans hbd.2.2.2⟩)
  exact (lp2 61 0 pp.1 ⟨by omega, by omega, rfl, rfl⟩)
set_option maxHeartbeats 4000000 in
set_option maxRecDepth 100000 in
theorem c_X3_take (l : Launch) (γ : Gm) (W : Wd) (S : Nat → Int32) (pp : Rd) (n : Nat) (hn : S 60 = nI n) (h60 : n ≤ 60) (hp : pp.1 ≤ 800) (x a b : Int32) : Cr l γ yX3_take cX3_take 4 (some .int) 2 42 0 0 [.ref (γ.1 + 1), .int x, .int a, .int b] (rdw γ (wset W 8 (ct S pp))) (Det (some (.int (if pp.2 = (-1001) ∧ (¬ x < a ∧ ¬ b < x) then x else (-1001)))) (rdw γ (wset W 8 (ct S (r_needs S n pp (¬ x < a ∧ ¬ b < x)))))) := by
  refine Cr_of [some (.ref (γ.1 + 1)), some (.int x), some (.int a), some (.int b)] (by decide +kernel) (Nat.le_of_ble_eq_true rfl) rfl ?_
  intro p e s m args below meth c X
  refine v_q0 (fun Q0 hQ0 => ?_)
  refine v_aload_n X rfl dX3_take_0 ?_
  refine v_getf X (v := (.int ((wset W 8 (ct S pp)).1 8 61))) fd_X3_26 (rd_Text γ _) rfl dX3_take_1 ?_
  rw [ws_same, ct_61]
  refine v_sipush' X ks_m1001 dX3_take_4 ?_
  refine v_icmp_eq (tgt := 14) X dX3_take_7 (by decide) (fun q1 => ?_) (fun q1 => ?_)
  · refine v_iload_n X rfl dX3_take_14 ?_
    refine v_iload_n X rfl dX3_take_15 ?_
    refine v_iload_n X rfl dX3_take_16 ?_
    refine v_callSN X msn_X3_85 (c_X6_isWithin l γ _ _ _ _) rfl ⟨Nat.le_of_ble_eq_true rfl, Nat.le_of_ble_eq_true rfl, Nat.le_of_ble_eq_true rfl, Nat.le_of_ble_eq_true rfl⟩ (Nat.le_of_ble_eq_true rfl) rfl dX3_take_17 rfl (det_i ?_)
    refine v_if_ne_b (tgt := 35) X dX3_take_20 (by decide) (fun q2 => ?_) (fun q2 => ?_)
    · have hc : pp.2 = (-1001) ∧ (¬ x < a ∧ ¬ b < x) := ⟨q1, q2⟩
      have hs : r_needs S n pp (¬ x < a ∧ ¬ b < x) = (t_bl S n (pp.1 + 1), pp.2) := if_pos hc
      refine v_aload_n X rfl dX3_take_35 ?_
      refine v_dup X rfl dX3_take_36 ?_
      refine v_getf X (v := (.int ((wset W 8 (ct S pp)).1 8 62))) fd_X3_29 (rd_Text γ _) rfl dX3_take_37 ?_
      rw [ws_same, ct_62]
      refine v_iconst' X kc_1 dX3_take_40 ?_
      refine v_iadd' X (nI_add _ _) dX3_take_41 ?_
      refine v_putf X fp_X3_29 (rd_Text γ _) rfl rfl (Nat.le_of_ble_eq_true rfl) dX3_take_42 ?_
      refine v_eqh (uq_tat γ _ _) ?_
      rw [ws_same, wset_wset, ct_u62]
      refine v_aload_n X rfl dX3_take_45 ?_
      refine v_callV (ci := 4) X mv_X3_35 (c_X3_skipBlanks l γ W S (pp.1 + 1, pp.2) n hn h60 (by show pp.1 + 1 ≤ 830; omega)) rfl rfl (rd_Text γ _) rfl ⟨Nat.le_of_ble_eq_true rfl, Nat.le_of_ble_eq_true rfl, Nat.le_of_ble_eq_true rfl, Nat.le_of_ble_eq_true rfl⟩ (Nat.le_of_ble_eq_true rfl) rfl dX3_take_46 rfl (det_v ?_)
      refine v_iload_n X rfl dX3_take_49 ?_
      subst hQ0
      exact v_iret X rfl (Nat.le_of_ble_eq_true rfl) (Nat.le_of_ble_eq_true rfl) dX3_take_50 ⟨so_some (by first | exact (if_pos hc).symm | exact (if_neg hc).symm), by rw [hs]⟩
    · have hc : ¬ (pp.2 = (-1001) ∧ (¬ x < a ∧ ¬ b < x)) := fun z => q2 z.2
      have hs : r_needs S n pp (¬ x < a ∧ ¬ b < x) = (pp.1, nI pp.1) := by unfold r_needs r_fail; rw [if_neg hc, if_pos q1]
      refine v_aload_n X rfl dX3_take_23 ?_
      refine v_aload_n X rfl dX3_take_24 ?_
      refine v_getf X (v := (.int ((wset W 8 (ct S pp)).1 8 62))) fd_X3_29 (rd_Text γ _) rfl dX3_take_25 ?_
      rw [ws_same, ct_62]
      refine v_putf X fp_X3_26 (rd_Text γ _) rfl rfl (Nat.le_of_ble_eq_true rfl) dX3_take_28 ?_
      refine v_eqh (uq_tfault γ _ _) ?_
      rw [ws_same, wset_wset, ct_u61]
      refine v_sipush' X ks_m1001 dX3_take_31 ?_
      subst hQ0
      exact v_iret X rfl (Nat.le_of_ble_eq_true rfl) (Nat.le_of_ble_eq_true rfl) dX3_take_34 ⟨so_some (by first | exact (if_pos hc).symm | exact (if_neg hc).symm), by rw [hs]⟩
  · have hc : ¬ (pp.2 = (-1001) ∧ (¬ x < a ∧ ¬ b < x)) := fun z => q1 z.1
    have hs : r_needs S n pp (¬ x < a ∧ ¬ b < x) = pp := by unfold r_needs r_fail; rw [if_neg hc, if_neg q1]
    refine v_sipush' X ks_m1001 dX3_take_10 ?_
    subst hQ0
    exact v_iret X rfl (Nat.le_of_ble_eq_true rfl) (Nat.le_of_ble_eq_true rfl) dX3_take_13 ⟨so_some (by first | exact (if_pos hc).symm | exact (if_neg hc).symm), by rw [hs]⟩
set_option maxHeartbeats 4000000 in
set_option maxRecDepth 100000 in
theorem c_X3_takeDigit (l : Launch) (γ : Gm) (W : Wd) (S : Nat → Int32) (pp : Rd) (n : Nat) (hn : S 60 = nI n) (h60 : n ≤ 60) (hp : pp.1 ≤ 800) (a b : Int32) : Cr l γ yX3_takeDigit cX3_takeDigit 3 (some .int) 3 65 0 0 [.ref (γ.1 + 1), .int a, .int b] (rdw γ (wset W 8 (ct S pp))) (Det (some (.int (if pp.2 = (-1001) ∧ t_isD S n pp.1 a b then t_nx S n pp.1 - nI 48 else (-1001)))) (rdw γ (wset W 8 (ct S (r_needs S n pp (t_isD S n pp.1 a b)))))) := by
  refine Cr_of [some (.ref (γ.1 + 1)), some (.int a), some (.int b)] (by decide +kernel) (Nat.le_of_ble_eq_true rfl) rfl ?_
  intro p e s m args below meth c X
  refine v_q0 (fun Q0 hQ0 => ?_)
  refine v_aload_n X rfl dX3_takeDigit_0 ?_
  refine v_aload_n X rfl dX3_takeDigit_1 ?_
  refine v_aload_n X rfl dX3_takeDigit_2 ?_
  refine v_getf X (v := (.int ((wset W 8 (ct S pp)).1 8 62))) fd_X3_29 (rd_Text γ _) rfl dX3_takeDigit_3 ?_
  rw [ws_same, ct_62]
  refine v_callV (ci := 4) X mv_X3_70 (c_X3_byteAt l γ W S pp n hn h60 (by omega) pp.1 (by omega)) rfl rfl (rd_Text γ _) rfl ⟨Nat.le_of_ble_eq_true rfl, Nat.le_of_ble_eq_true rfl, Nat.le_of_ble_eq_true rfl, Nat.le_of_ble_eq_true rfl⟩ (Nat.le_of_ble_eq_true rfl) rfl dX3_takeDigit_6 rfl (det_i ?_)
  refine v_bipush' X kb_48 dX3_takeDigit_9 ?_
  refine v_isub X dX3_takeDigit_11 ?_
  refine v_iload_n X rfl dX3_takeDigit_12 ?_
  refine v_iload_n X rfl dX3_takeDigit_13 ?_
  refine v_callV (ci := 4) X mv_X3_81 (c_X3_take l γ W S pp n hn h60 hp _ _ _) rfl rfl (rd_Text γ _) rfl ⟨Nat.le_of_ble_eq_true rfl, Nat.le_of_ble_eq_true rfl, Nat.le_of_ble_eq_true rfl, Nat.le_of_ble_eq_true rfl⟩ (Nat.le_of_ble_eq_true rfl) rfl dX3_takeDigit_14 rfl (det_i ?_)
  subst hQ0
  exact v_iret X rfl (Nat.le_of_ble_eq_true rfl) (Nat.le_of_ble_eq_true rfl) dX3_takeDigit_17 ⟨rfl, rfl⟩
