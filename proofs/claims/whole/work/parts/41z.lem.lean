/-! ===== rules, eyes ===== -/
theorem rul0 {P : Nat → Bool} {z : Int32} (h : cnS P = 0) : (if z.toInt = 0 then nI (cnS P) else if z.toInt = 1 then ff P 40 1 else fl P 40) = (if z.toInt = 0 then nI 0 else -9) := by
  rw [h, show ff P 40 1 = -9 from ff_none (cnS_0 h) 40 1 (Nat.le_refl _) rfl, show fl P 40 = -9 from fl_none (cnS_0 h) 40 (Nat.le_refl _), ite_self]
def unB (p : Nat → Bool) (f h : Nat → Nat) : Nat → Bool := fun r => p r && decide (f r ≠ h r)
theorem bitL_un (W : Nat → Nat) (f h : Nat → Nat) : bitL (lfM W &&& mskP (fun r => decide (f r ≠ h r)) 40) = unB (lpB W) f h := by
  funext r
  rw [bitL_and, bitL_lf, bitL_msk _ r 40 (by omega)]
  simp only [unB, lpB]
  by_cases e : 1 ≤ r ∧ r ≤ 40
  · rw [decide_eq_true e]; simp
  · rw [decide_eq_false e]; rfl
theorem inS_un (W : Nat → Nat) (y : Int64) : inS (lfM W &&& y) := fun r h => by
  rw [bitL_and] at h
  exact inS_lf W r (by simp at h; exact h.1)
theorem okS_47 {S : Nat → Nat} {i : Nat} (h : okS S) (hi : i ≤ 4) : okS (updN S 47 i) := by
  obtain ⟨h0, h1, h2, h3, h4, h5, h6, h7, h8⟩ := h
  exact ⟨fun j hj => by rw [updN_ne (by omega)]; exact h0 j hj, h1, h2, h3, h4, h5, h6, hi, h8⟩
theorem okS_43 {S : Nat → Nat} {i : Nat} (h : okS S) (hi : i ≤ 9) : okS (updN S 43 i) := by
  obtain ⟨h0, h1, h2, h3, h4, h5, h6, h7, h8⟩ := h
  exact ⟨fun j hj => by rw [updN_ne (by omega)]; exact h0 j hj, h1, h2, hi, h4, h5, h6, h7, h8⟩
theorem tlS_47 (S : Nat → Nat) (i : Nat) : tlS (updN S 47 i) = fun v r => tl (S 41) (S 42) (S 43) (S 46) i v r := by
  funext v r; simp [tlS, updN]
theorem tlS_43 (S : Nat → Nat) (i : Nat) : tlS (updN S 43 i) = fun v r => tl (S 41) (S 42) i (S 46) (S 47) v r := by
  funext v r; simp [tlS, updN]
theorem ff_snoc {P : Nat → Bool} : ∀ n i, i + n < 1000 → ff P (n + 1) i = if ff P n i = -9 then (if P (i + n) = true then nI (i + n) else -9) else ff P n i
  | 0, i, _ => by simp [ff]
  | n + 1, i, h => by
    have ih := ff_snoc (P := P) n (i + 1) (by omega)
    rw [show i + 1 + n = i + (n + 1) by omega] at ih
    have e : ff P (n + 1 + 1) i = if P i = true then nI i else ff P (n + 1) (i + 1) := rfl
    have e2 : ff P (n + 1) i = if P i = true then nI i else ff P n (i + 1) := rfl
    rw [e, e2]
    by_cases hp : P i = true
    · rw [if_pos hp, if_pos hp, if_neg (nI_neg9 (by omega))]
    · rw [if_neg hp, if_neg hp, ih]
theorem ff_no1 {P : Nat → Bool} {i : Nat} {f : Int32} (hi : 1 ≤ i) (hi2 : i ≤ 40) (hf : f = ff P (i - 1) 1) (h : P i = false) : f = ff P (i + 1 - 1) 1 := by
  obtain ⟨k, rfl⟩ : ∃ k, i = k + 1 := ⟨i - 1, by omega⟩
  rw [show k + 1 - 1 = k by omega] at hf
  rw [show k + 1 + 1 - 1 = k + 1 by omega, ff_snoc k 1 (by omega), ← hf, show 1 + k = k + 1 by omega, h]
  split
  · next e => rw [e]; rfl
  · rfl
theorem ff_on1 {P : Nat → Bool} {i : Nat} {f : Int32} (hi : 1 ≤ i) (hi2 : i ≤ 40) (hf : f = ff P (i - 1) 1) (h : P i = true) (h9 : f = -9) : nI i = ff P (i + 1 - 1) 1 := by
  obtain ⟨k, rfl⟩ : ∃ k, i = k + 1 := ⟨i - 1, by omega⟩
  rw [show k + 1 - 1 = k by omega] at hf
  rw [show k + 1 + 1 - 1 = k + 1 by omega, ff_snoc k 1 (by omega), ← hf, show 1 + k = k + 1 by omega, if_pos h9, if_pos h]
theorem ff_old1 {P : Nat → Bool} {i : Nat} {f : Int32} (hi : 1 ≤ i) (hi2 : i ≤ 40) (hf : f = ff P (i - 1) 1) (h9 : f ≠ -9) : f = ff P (i + 1 - 1) 1 := by
  obtain ⟨k, rfl⟩ : ∃ k, i = k + 1 := ⟨i - 1, by omega⟩
  rw [show k + 1 - 1 = k by omega] at hf
  rw [show k + 1 + 1 - 1 = k + 1 by omega, ff_snoc k 1 (by omega), ← hf, if_neg h9]
/-- a set of small numbers as the bits of an int -/
def bitsI (P : Nat → Bool) : Nat → Int32
  | 0 => nI 0
  | n + 1 => if P n = true then bitsI P n ||| (nI 1 <<< (nI n &&& 31)) else bitsI P n
theorem bits_on {P : Nat → Bool} {i : Nat} {b : Int32} (e : b = bitsI P i) (h : P i = true) : b ||| (nI 1 <<< (nI i &&& 31)) = bitsI P (i + 1) := by
  simp only [bitsI]; rw [if_pos h, e]
theorem bits_off {P : Nat → Bool} {i : Nat} {b : Int32} (e : b = bitsI P i) (h : ¬ P i = true) : b = bitsI P (i + 1) := by
  simp only [bitsI]; rw [if_neg h, e]
theorem or_nI0 (b : Int32) : b ||| nI 0 = b := Int32.or_zero
theorem cd_1 {rw_ : Nat → Nat} {i : Nat} (h : ∀ j, j < i → cdR rw_ j) (a : cdR rw_ i) : ∀ j, j < i + 1 → cdR rw_ j := fun j hj => by
  rcases (show j < i ∨ j = i by omega) with e | e
  · exact h j e
  · rw [e]; exact a
