/-! ===== searches, counts, lots ===== -/
theorem ne_ex {P : Nat → Nat} (h : ¬ cnS (lpB P) = 0) : ∃ j, 1 ≤ j ∧ j ≤ 40 ∧ P j ≠ 0 := Classical.byContradiction (fun q => h ((sg_congr (f' := fun _ => 0) 40 (fun r h1 h2 => by
    have e : P r = 0 := Classical.byContradiction (fun z => q ⟨r, h1, h2, z⟩)
    rw [if_neg]; simp [lpB, e])).trans rfl))
theorem ff_none {p : Nat → Bool} (h : ∀ r, 1 ≤ r → r ≤ 40 → p r = false) : ∀ n i, 1 ≤ i → n + i = 41 → ff p n i = -9
  | 0, _, _, _ => rfl
  | n + 1, i, h1, h2 => by
    simp only [ff]; rw [if_neg (by rw [h i h1 (by omega)]; decide)]
    exact ff_none h n (i + 1) (by omega) (by omega)
theorem fl_none {p : Nat → Bool} (h : ∀ r, 1 ≤ r → r ≤ 40 → p r = false) : ∀ n, n ≤ 40 → fl p n = -9
  | 0, _ => rfl
  | n + 1, h1 => by
    simp only [fl]; rw [if_neg (by rw [h (n + 1) (by omega) h1]; decide)]
    exact fl_none h n (by omega)
theorem lim0 {S : Nat → Nat} {x : Int32} (h : cnS (lpB S) = 0) : (if x.toInt = 0 then ff (lpB S) 40 1 else if x.toInt = 1 then fl (lpB S) 40 else midS S) = -9 := by
  have h1 : ff (lpB S) 40 1 = -9 := ff_none (cnS_0 h) 40 1 (Nat.le_refl _) rfl
  have h2 : fl (lpB S) 40 = -9 := fl_none (cnS_0 h) 40 (Nat.le_refl _)
  have h3 : midS S = -9 := by unfold midS; rw [if_pos ((em0 S).mpr h)]
  (repeat' split) <;> assumption
theorem ff_at {p : Nat → Bool} {r : Nat} (hr1 : 1 ≤ r) (hr : r ≤ 40) (h : ∀ j, 1 ≤ j → j < r → p j = false) (hp : p r = true) : ff p 40 1 = nI r := by
  have key : ∀ d i, 1 ≤ i → i + d = r → ff p (41 - i) i = nI r := by
    intro d
    induction d with
    | zero => intro i h1 h2; have e : i = r := by omega
              subst e; exact ff_yes hr hp
    | succ d ih => intro i h1 h2; rw [ff_no (by omega) (h i h1 (by omega))]; exact ih (i + 1) (by omega) (by omega)
  exact key (r - 1) 1 (Nat.le_refl _) (by omega)
theorem mid_at {S : Nat → Nat} {r : Nat} (hc : ¬ cnS (lpB S) = 0) (hr : r ≤ 40) (h : ∀ j, j < r → 2 * sg S j < sg S 40) (he : sg S 40 ≤ 2 * sg S r) : nI r = midS S := by
  have h0 : ¬ sg S 40 = 0 := fun z => hc ((em0 S).mp z)
  have hr1 : 1 ≤ r := by
    rcases Nat.eq_zero_or_pos r with e | e
    · subst e
      have e0 : sg S 0 = 0 := rfl
      rw [e0] at he; omega
    · exact e
  unfold midS; rw [if_neg h0]
  exact (ff_at (p := fun r => decide (sg S 40 ≤ 2 * sg S r)) hr1 hr (fun j _ h2 => decide_eq_false (by have := h j h2; show ¬ (sg S 40 ≤ 2 * sg S j); omega)) (decide_eq_true he)).symm
def fwF (w c : Nat) : Nat → Nat → Nat
  | 0, n => n
  | d + 1, n => if w ^ n < c then fwF w c d (n + 1) else n
theorem fw_step {w c n : Nat} (hn : n ≤ 40) (h : w ^ n < c) : fwF w c (41 - n) n = fwF w c (41 - (n + 1)) (n + 1) := by
  rw [show 41 - n = (41 - (n + 1)) + 1 by omega]; simp only [fwF]; rw [if_pos h]
theorem fw_end {w c n : Nat} (hn : n ≤ 40) (h : c ≤ w ^ n) : fwF w c (41 - n) n = n := by
  rw [show 41 - n = (41 - (n + 1)) + 1 by omega]; simp only [fwF]; rw [if_neg (Nat.not_lt.mpr h)]
theorem pw_lt {w n : Nat} (hw : 2 ≤ w) (h : w ^ n < 41) : n < 6 := Classical.byContradiction fun q => by
  have h1 : 2 ^ 6 ≤ 2 ^ n := Nat.pow_le_pow_right (by omega) (by omega)
  have h2 : 2 ^ n ≤ w ^ n := Nat.pow_le_pow_left hw n
  have h3 : (2 : Nat) ^ 6 = 64 := by decide
  rw [h3] at h1
  exact absurd (Nat.lt_of_le_of_lt (Nat.le_trans h1 h2) h) (by decide)
def sdI (z : Int32) : Nat → Int32
  | 0 => z
  | n + 1 => sdI z n * 1664525 + 1013904223
def lt31 (s : Int32) : Nat := (s &&& 2147483647).toInt.toNat
theorem lt31_ok (s : Int32) : s &&& 2147483647 = nI (lt31 s) ∧ lt31 s < 2 ^ 31 := by
  obtain ⟨j, hj, e⟩ := pk_andE s (m := 2147483647) 31 (by decide)
  have h : lt31 s = j := by unfold lt31; rw [e, nI_toInt hj]; rfl
  rw [h]; exact ⟨e, hj⟩
def ltS (f : Nat → Int32) (z : Int32) : Nat → Int32
  | 0 => nI 0
  | n + 1 => ltS f z n + f (lt31 (sdI z (n + 1)) / 256 % 40 + 1)
def lotF (p : Nat → Bool) (E : Nat → Int32) : Nat → Int32 := fun r => if p r = true then (if E r = -9 then nI 12 else E r) else nI 0
theorem add_nI0 (x : Int32) : x + nI 0 = x := Int32.add_zero x
theorem ltS_on {f : Nat → Int32} {z sd v a : Int32} {i r : Nat} (ha : a = ltS f z i) (hs : sd = sdI z (i + 1)) (hr : r = lt31 sd / 256 % 40 + 1) (h : f r = v) : a + v = ltS f z (i + 1) := by
  subst hr; subst hs; subst ha; rw [← h]; rfl
def moF (p : Nat → Bool) (E : Nat → Int32) : Nat → Int32
  | 0 => nI 0
  | n + 1 => if moF p E n = -9 then -9 else if p (n + 1) = true then (if E (n + 1) = -9 then -9 else if moF p E n < E (n + 1) then E (n + 1) else moF p E n) else moF p E n
section MOF
variable {p : Nat → Bool} {E : Nat → Int32} {i : Nat} {m : Int32}
theorem mo_skip (hi : 1 ≤ i) (hm : m = moF p E (i - 1)) (h9 : m ≠ -9) (hp : p i = false) : m = moF p E (i + 1 - 1) := by
  obtain ⟨k, rfl⟩ : ∃ k, i = k + 1 := ⟨i - 1, by omega⟩
  rw [show k + 1 - 1 = k by omega] at hm
  rw [show k + 1 + 1 - 1 = k + 1 by omega]
  simp only [moF]; rw [← hm, if_neg h9, if_neg (by rw [hp]; decide)]
theorem mo_step (hi : 1 ≤ i) (hm : m = moF p E (i - 1)) (h9 : m ≠ -9) (hp : p i = true) (hE : E i ≠ -9) : (if m < E i then E i else m) = moF p E (i + 1 - 1) ∧ (if m < E i then E i else m) ≠ -9 := by
  obtain ⟨k, rfl⟩ : ∃ k, i = k + 1 := ⟨i - 1, by omega⟩
  rw [show k + 1 - 1 = k by omega] at hm
  rw [show k + 1 + 1 - 1 = k + 1 by omega]
  simp only [moF]; rw [← hm, if_neg h9, if_pos hp, if_neg hE]
  refine ⟨rfl, ?_⟩
  split <;> assumption
theorem mo_stop (h : moF p E i = -9) : ∀ d, moF p E (i + d) = -9
  | 0 => h
  | d + 1 => by
    show moF p E ((i + d) + 1) = -9
    simp only [moF]; rw [if_pos (mo_stop h d)]
theorem mo_bad (hi : 1 ≤ i) (hi2 : i ≤ 40) (hm : m = moF p E (i - 1)) (h9 : m ≠ -9) (hp : p i = true) (hE : E i = -9) : moF p E 40 = -9 := by
  have h1 : moF p E i = -9 := by
    obtain ⟨k, rfl⟩ : ∃ k, i = k + 1 := ⟨i - 1, by omega⟩
    rw [show k + 1 - 1 = k by omega] at hm
    simp only [moF]; rw [← hm, if_neg h9, if_pos hp, if_pos hE]
  have h2 := mo_stop h1 (40 - i)
  rw [show i + (40 - i) = 40 by omega] at h2
  exact h2
end MOF
theorem note_at {E : Nat → Int32} {p : Nat → Bool} {f : Nat → Int32} {i : Nat} (h1 : 1 ≤ i) (h2 : i ≤ 40) (h : p i = true) : noteF E p f 40 i = f i := by
  simp only [noteF]; rw [if_pos ⟨h1, h2, h⟩]
