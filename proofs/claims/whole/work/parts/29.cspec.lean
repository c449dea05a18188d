/-! ===== the ROW ===== -/
abbrev cdR (rw_ : Nat → Nat) (k : Nat) : Prop := if k % 3 = 2 then rw_ k ≤ 8 else (1 ≤ rw_ k ∧ rw_ k ≤ 40)
abbrev okR (rw_ : Nat → Nat) (rn : Nat) : Prop := rn % 3 = 0 ∧ ∀ k, k < rn → cdR rw_ k
abbrev toldR (t : Nat → Nat → Nat) (rw_ : Nat → Nat) (rn : Nat) : Prop := ∀ j, j < rn → j % 3 = 0 → t (rw_ j) (rw_ (j + 1)) = rw_ (j + 2)
theorem cdR_use {rw_ : Nat → Nat} {k : Nat} (h : cdR rw_ k) : (k % 3 = 2 ∧ rw_ k ≤ 8) ∨ (k % 3 ≠ 2 ∧ 1 ≤ rw_ k ∧ rw_ k ≤ 40) := by
  unfold cdR at h
  by_cases e : k % 3 = 2
  · rw [if_pos e] at h; exact Or.inl ⟨e, h⟩
  · rw [if_neg e] at h; exact Or.inr ⟨e, h⟩
theorem cdR_3 {rw_ : Nat → Nat} {i : Nat} (h : ∀ k, k < i → cdR rw_ k) (h3 : i % 3 = 0) (a : 1 ≤ rw_ i ∧ rw_ i ≤ 40) (b : 1 ≤ rw_ (i + 1) ∧ rw_ (i + 1) ≤ 40) (c : rw_ (i + 2) ≤ 8) : ∀ k, k < i + 3 → cdR rw_ k := by
  intro k hk
  rcases (show k < i ∨ k = i ∨ k = i + 1 ∨ k = i + 2 by omega) with e | e | e | e
  · exact h k e
  · subst e; unfold cdR; rw [if_neg (by omega)]; exact a
  · subst e; unfold cdR; rw [if_neg (by omega)]; exact b
  · subst e; unfold cdR; rw [if_pos (by omega)]; exact c
theorem cdR_no {rw_ : Nat → Nat} {i : Nat} (h3 : i % 3 = 0) (a : cdR rw_ i) (b : cdR rw_ (i + 1)) (c : cdR rw_ (i + 2)) (h : ¬ (1 ≤ rw_ i ∧ rw_ i ≤ 40) ∨ ¬ (1 ≤ rw_ (i + 1) ∧ rw_ (i + 1) ≤ 40) ∨ 8 < rw_ (i + 2)) : False := by
  have a1 := cdR_use a
  have b1 := cdR_use b
  have c1 := cdR_use c
  omega
theorem tr_3 {t : Nat → Nat → Nat} {rw_ : Nat → Nat} {i : Nat} (h : ∀ j, j < i → j % 3 = 0 → t (rw_ j) (rw_ (j + 1)) = rw_ (j + 2)) (h3 : i % 3 = 0) (a : t (rw_ i) (rw_ (i + 1)) = rw_ (i + 2)) : ∀ j, j < i + 3 → j % 3 = 0 → t (rw_ j) (rw_ (j + 1)) = rw_ (j + 2) := by
  intro j hj hj3
  rcases (show j < i ∨ j = i by omega) with e | e
  · exact h j e hj3
  · subst e; exact a
def lbT (W B : Nat → Nat) (sk ek : Nat) (rw_ : Nat → Nat) (rn i : Nat) (x : Int64) : Int64 := if i + 1 < rn ∧ 1 ≤ rw_ i ∧ rw_ i ≤ 40 then x &&& toldM W B sk ek (rw_ i) (rw_ (i + 1)) else lN 0
