/-! ===== for the public methods ===== -/
theorem inS_lf (W : Nat → Nat) : inS (lfM W) := fun r h => by
  rw [bitL_lf] at h; simp at h; exact h.1
theorem lf0 (W : Nat → Nat) : lfM W = lN 0 ↔ cnS (lpB W) = 0 := by rw [zero_cn (inS_lf W), bitL_lfM]
theorem em0 (S : Nat → Nat) : sg S 40 = 0 ↔ cnS (lpB S) = 0 := by
  constructor
  · intro h
    exact (sg_congr (f' := fun _ => 0) 40 (fun r h1 h2 => by
      have := sg_zero 40 h r h1 h2
      rw [if_neg]; simp [lpB, this])).trans rfl
  · intro h
    exact (sg_congr (f' := fun _ => 0) 40 (fun r h1 h2 => by
      have h3 := cnS_0 h r h1 h2
      by_cases e : S r = 0
      · exact e
      · rw [lp_on h1 h2 e] at h3; exact absurd h3 (by decide))).trans rfl
theorem bitL_told (W B : Nat → Nat) (sk ek v k : Nat) : bitL (toldM W B sk ek v k) = prt (tlT B sk ek) (lpB W) v k := by
  funext r
  unfold toldM
  rw [bitL_msk _ r 40 (by omega)]
  simp only [prt, lpB, tlT, Bool.and_assoc]
  first | rfl | congr
theorem inS_told (W B : Nat → Nat) (sk ek v k : Nat) : inS (toldM W B sk ek v k) := fun r h => by
  rw [bitL_told] at h; simp [prt, lpB] at h; exact h.1.1
theorem told0 (W B : Nat → Nat) (sk ek v k : Nat) : toldM W B sk ek v k = lN 0 ↔ cnS (prt (tlT B sk ek) (lpB W) v k) = 0 := by rw [zero_cn (inS_told _ _ _ _ _ _), bitL_told]
theorem sgW_b {W : Nat → Nat} (h : ∀ j, j ≤ 40 → W j ≤ 9) : sg W 40 ≤ 360 := by
  have := sg_le (f := W) (M := 9) 40 (fun r _ h2 => h r h2); omega
theorem me_w0 {t : Nat → Nat → Nat} {W : Nat → Nat} {v : Nat} (h : sg W 40 = 0) : meS t W (lpB W) v = 0 := by
  have h1 := (em0 W).mp h
  unfold meS
  refine sz_zero 9 (fun k _ => ?_)
  have : cnS (prt t (lpB W) v k) = 0 := (sg_congr (f' := fun _ => 0) 40 (fun r h2 h3 => by
    have h4 := cnS_0 h1 r h2 h3
    rw [if_neg]; simp [prt, h4])).trans rfl
  rw [this, Nat.mul_zero]
