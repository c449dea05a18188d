/-! ===== small facts of the reference's row ===== -/
theorem cut48 {W : Nat → Nat} {q : Nat → Bool} : cutN W q 40 48 = W 48 := by simp only [cutN]; rw [if_neg (by omega)]
theorem lpB_u48 {M : Nat → Nat} {v : Nat} : lpB (updN M 48 v) = lpB M := by
  funext r
  by_cases h : 1 ≤ r ∧ r ≤ 40
  · have e : updN M 48 v r = M r := updN_ne (by omega)
    simp only [lpB, e]
  · simp only [lpB]; rw [decide_eq_false h]; rfl
theorem rsp_0 (v : Int32) : rsp 0 v = v := if_pos rfl
theorem rspL_0 (v : Int64) : rspL 0 v = v := if_pos rfl
theorem bump_0 (rf : Nat → Int32) : bump rf 0 = rf := if_pos rfl
