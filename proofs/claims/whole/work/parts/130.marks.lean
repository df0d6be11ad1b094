/-! PURE, 1: marks. What a word says of a race, as both sides read it. -/
section PURE1
/-- the mark of race r in a word -/
def mk (w : Int32) (r : Nat) : Nat := w.toBitVec.toNat / 2 ^ (3 * r) % 8
theorem mk_lt (w : Int32) (r : Nat) : mk w r < 8 := Nat.mod_lt _ (by decide)
theorem mk3 {r : Nat} (hr : r < 5) : ((3 : Int32) * nI r) = nI (3 * r) := by
  rcases (show r = 0 ∨ r = 1 ∨ r = 2 ∨ r = 3 ∨ r = 4 by omega) with rfl | rfl | rfl | rfl | rfl <;> decide
theorem mk_b7 : ∀ i, i < 32 → bt 7 i = decide (i < 3) := by decide +kernel
theorem mk_u (w : Int32) {r : Nat} (hr : r < 5) : (iush w ((3 : Int32) * nI r)) &&& (7 : Int32) = nI (mk w r) := by
  rw [pk_and (iush w ((3 : Int32) * nI r)) 3 (by decide)]
  have h := pk_ushr w ((3 : Int32) * nI r) (3 * r) (by rcases (show r = 0 ∨ r = 1 ∨ r = 2 ∨ r = 3 ∨ r = 4 by omega) with rfl | rfl | rfl | rfl | rfl <;> decide)
  rw [show (iush w ((3 : Int32) * nI r)).toBitVec.toNat = w.toBitVec.toNat / 2 ^ (3 * r) from h]
  rfl
theorem mk_s (w : Int32) {r : Nat} (hr : r < 5) : (w >>> (((3 : Int32) * nI r) &&& 31)) &&& (7 : Int32) = nI (mk w r) := by
  rw [← mk_u w hr, mk3 hr]
  refine b_ext (fun i hi => ?_)
  rw [b_and, b_and, mk_b7 i hi]
  by_cases h3 : i < 3
  · rw [b_sshr (3 * r) (by omega) w hi, show bt (iush w (nI (3 * r))) i = bt w (3 * r + i) from b_ushr (3 * r) (by omega) w i, if_pos (by omega)]
  · rw [decide_eq_false h3, Bool.and_false, Bool.and_false]
theorem e_markOf (w : Int32) {r : Nat} (hr : r < 5) : f_X5_markOf w (nI r) = some (nI (mk w r)) := by
  unfold f_X5_markOf
  rw [mk_u w hr]
theorem e_of (w : Int32) {r : Nat} (hr : r < 5) : f_X6_of w (nI r) = some (nI (mk w r)) := by
  unfold f_X6_of
  rw [mk_s w hr]
theorem gd_nI {α : Type} {j n : Nat} {x : Option α} (h : j < n) (hn : n < 2 ^ 31) : gd (nI j) n x = x := gd_in (vp_in_nI h hn)
theorem cl_nI {j : Nat} (h : j < 2 ^ 31) : (nI j).toNatClampNeg = j := nI_clamp h
end PURE1
