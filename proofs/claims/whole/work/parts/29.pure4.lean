/-! the shelf's places, by the reference -/
theorem pl_of {u : Nat → Int32} {n j : Nat} {p : Int32} (h : rL (rk u n) p n = some j) : pl u n p = j := by
  unfold pl
  rw [h]
  rfl
theorem pl_lt {u : Nat → Int32} {n j : Nat} {p : Int32} (h : rL (rk u n) p n = some j) : pl u n p < n := by
  rw [pl_of h]
  exact (rL_some h).1
