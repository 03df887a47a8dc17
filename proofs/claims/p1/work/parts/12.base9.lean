theorem vp_narb {x : Int32} (h : x = 0 ∨ x = 1) : vp_nar .boolean x = x := by rcases h with rfl | rfl <;> rfl
theorem l2i_in (x : Int64) : -2147483648 ≤ x.toInt32.toInt ∧ x.toInt32.toInt ≤ 2147483647 ∧ (-2147483648 ≤ x.toInt ∧ x.toInt ≤ 2147483647 → x.toInt32.toInt = x.toInt) := by
  have h1 : x.toInt32.toInt = x.toInt.bmod (2 ^ 32) := Int64.toInt_toInt32 x
  have h2 := Int32.le_toInt x.toInt32
  have h3 := Int32.toInt_lt x.toInt32
  refine ⟨by omega, by omega, fun h => ?_⟩
  rw [h1]
  first | exact Int.bmod_eq_of_le (by omega) (by omega) | (simp only [Int.bmod_def]; split <;> omega)


