theorem q_f2_hi (M : Nat → Int32) {a b j : Nat} (ha : a < 6) (hj : 168 ≤ j) : q_f2 M a b j = M j := by unfold q_f2 q_f1; rw [pk_un (by omega), pk_un (by omega)]
def c_land (M : Nat → Int32) (x : Int32) (b : Nat) (u : Int32) : Nat → Int32 := if ¬ x < nI 0 ∧ ¬ nI 39 < x then upd M (3 * x.toNatClampNeg + b) (M (3 * x.toNatClampNeg + b) + u) else upd M 226 (M 226 + u)
theorem fall_land (M : Nat → Int32) {a b : Nat} (ha : a < 6) : c_land (q_f2 M a b) (M 219 - nI (4 * a)) b (q_u M a b) = q_falls M a b := by
  have e : M 219 - nI (4 * a) = q_fc M a b := by unfold q_fc; rw [q_f2_hi M ha (by omega)]
  rw [e]; rfl
theorem q_fallsN_S (g : Nat → Int32) {a b : Nat} (hb : b < 3) : q_falls (q_fallsN g (3 * a + b)) a b = q_fallsN g (3 * a + (b + 1)) := by
  show _ = q_falls (q_fallsN g (3 * a + b)) ((3 * a + b) / 3) ((3 * a + b) % 3)
  rw [show (3 * a + b) / 3 = a by omega, show (3 * a + b) % 3 = b by omega]
