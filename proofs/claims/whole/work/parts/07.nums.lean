/-! ===== searches, fractions ===== -/
/-- the first of i, i + 1 .. (n of them) with P, -9 none -/
def ff (P : Nat → Bool) : Nat → Nat → Int32
  | 0, _ => -9
  | n + 1, i => if P i = true then nI i else ff P n (i + 1)
/-- the last of 1 .. n with P, -9 none -/
def fl (P : Nat → Bool) : Nat → Int32
  | 0 => -9
  | n + 1 => if P (n + 1) = true then nI (n + 1) else fl P n
theorem ff_no {P : Nat → Bool} {i : Nat} (hi : i ≤ 40) (h : P i = false) : ff P (41 - i) i = ff P (41 - (i + 1)) (i + 1) := by
  rw [show 41 - i = (41 - (i + 1)) + 1 by omega]; simp only [ff]; rw [if_neg (by rw [h]; decide)]
theorem ff_yes {P : Nat → Bool} {i : Nat} (hi : i ≤ 40) (h : P i = true) : ff P (41 - i) i = nI i := by
  rw [show 41 - i = (41 - (i + 1)) + 1 by omega]; simp only [ff]; rw [if_pos h]
theorem ff_end {P : Nat → Bool} {i : Nat} (hi : 41 ≤ i) : ff P (41 - i) i = -9 := by
  rw [show 41 - i = 0 by omega]; rfl
theorem fl_no {P : Nat → Bool} {i : Nat} (hi : 1 ≤ i) (h : P i = false) : fl P i = fl P (i - 1) := by
  obtain ⟨k, rfl⟩ : ∃ k, i = k + 1 := ⟨i - 1, by omega⟩
  simp only [fl]; rw [if_neg (by rw [h]; decide)]; rfl
theorem fl_yes {P : Nat → Bool} {i : Nat} (hi : 1 ≤ i) (h : P i = true) : fl P i = nI i := by
  obtain ⟨k, rfl⟩ : ∃ k, i = k + 1 := ⟨i - 1, by omega⟩
  simp only [fl]; rw [if_pos h]
def frN (a b : Nat) (z : Bool) : Nat := if b = 0 then (if z = true then 0 else 1) else (if z = true then a else b) / Nat.gcd a b
/-- Euclid, a turn: what falls -/
theorem gcd_turn {u w t b : Nat} (hw : w ≠ 0) (h : t = 0 ∧ w = b ∨ 1 ≤ t ∧ w < u ∧ u * w * 2 ^ (t - 1) ≤ b * b) : 1 ≤ t + 1 ∧ u % w < w ∧ w * (u % w) * 2 ^ (t + 1 - 1) ≤ b * b := by
  have h1 : u % w < w := Nat.mod_lt _ (Nat.pos_of_ne_zero hw)
  refine ⟨by omega, h1, ?_⟩
  rcases h with ⟨h0, hb⟩ | ⟨ht, hlt, hle⟩
  · subst h0; subst hb
    simp only [Nat.zero_add, Nat.sub_self, Nat.pow_zero, Nat.mul_one]
    exact Nat.mul_le_mul_left _ (Nat.le_of_lt h1)
  · obtain ⟨k, rfl⟩ : ∃ k, t = k + 1 := ⟨t - 1, by omega⟩
    rw [show k + 1 + 1 - 1 = k + 1 by omega]
    rw [show k + 1 - 1 = k by omega] at hle
    have h2 : 2 * (u % w) ≤ u := by
      have h3 := Nat.div_add_mod u w
      have h4 : 1 ≤ u / w := (Nat.one_le_div_iff (Nat.pos_of_ne_zero hw)).mpr (Nat.le_of_lt hlt)
      have h5 : w * 1 ≤ w * (u / w) := Nat.mul_le_mul_left _ h4
      omega
    have h6 : w * (u % w) * 2 ^ (k + 1) = w * (2 * (u % w)) * 2 ^ k := by
      rw [Nat.pow_succ]; simp only [Nat.mul_assoc, Nat.mul_comm, Nat.mul_left_comm]
    rw [h6]
    refine Nat.le_trans ?_ hle
    rw [Nat.mul_comm u w]
    exact Nat.mul_le_mul_right _ (Nat.mul_le_mul_left _ h2)
theorem gcd_end {u w t b : Nat} (ht : 100 ≤ t) (hb : b ≤ 1000) (h : t = 0 ∧ w = b ∨ 1 ≤ t ∧ w < u ∧ u * w * 2 ^ (t - 1) ≤ b * b) : w = 0 := by
  rcases h with ⟨h0, _⟩ | ⟨h1, hlt, hle⟩
  · omega
  · rcases Nat.eq_zero_or_pos w with hz | hz
    · exact hz
    · exfalso
      have a1 : 1 ≤ u * w := Nat.mul_pos (by omega) hz
      have a2 : 2 ^ 99 ≤ 2 ^ (t - 1) := Nat.pow_le_pow_right (by omega) (by omega)
      have a3 : 1 * 2 ^ 99 ≤ u * w * 2 ^ (t - 1) := Nat.mul_le_mul a1 a2
      have a4 : b * b ≤ 1000 * 1000 := Nat.mul_le_mul hb hb
      have a5 : (2 : Nat) ^ 99 = 633825300114114700748351602688 := by decide
      omega
def fillE (W : Nat → Nat) (a e v : Nat) : Nat → Nat := fun j => if a ≤ j ∧ j < e then v else W j
theorem fillE_0 (W : Nat → Nat) (a v : Nat) : fillE W a a v = W := by funext j; simp only [fillE]; rw [if_neg (by omega)]
theorem fillE_step {W : Nat → Nat} {a e v : Nat} (h : a ≤ e) : updN (fillE W a e v) e v = fillE W a (e + 1) v := by
  funext j; simp only [fillE, updN]
  by_cases hj : j = e
  · subst hj; rw [if_pos rfl, if_pos (by omega)]
  · rw [if_neg hj]
    by_cases h2 : a ≤ j ∧ j < e
    · rw [if_pos h2, if_pos (by omega)]
    · rw [if_neg h2, if_neg (by omega)]
/-- the long's bits counted, as the JDK counts them -/
def bcA (x : Int64) : Int64 := x - ((x.toUInt64 >>> ((nI 1).toInt64.toUInt64 &&& Int64.toUInt64 63)).toInt64 &&& 6148914691236517205)
def bcB (a : Int64) : Int64 := (a &&& 3689348814741910323) + ((a.toUInt64 >>> ((nI 2).toInt64.toUInt64 &&& Int64.toUInt64 63)).toInt64 &&& 3689348814741910323)
def bcC (b : Int64) : Int64 := (b + (b.toUInt64 >>> ((nI 4).toInt64.toUInt64 &&& Int64.toUInt64 63)).toInt64) &&& 1085102592571150095
def bcS (k : Nat) (c : Int64) : Int64 := c + (c.toUInt64 >>> ((nI k).toInt64.toUInt64 &&& Int64.toUInt64 63)).toInt64
def bcF (x : Int64) : Int32 := (bcS 32 (bcS 16 (bcS 8 (bcC (bcB (bcA x)))))).toInt32 &&& nI 127
/-- how many of 1 .. 40 -/
def cnS (p : Nat → Bool) : Nat := sg (fun r => if p r = true then 1 else 0) 40
def inS (x : Int64) : Prop := ∀ r, bitL x r = true → 1 ≤ r ∧ r ≤ 40
theorem cnS_le (p : Nat → Bool) : cnS p ≤ 40 := by
  have := sg_le (f := fun r => if p r = true then 1 else 0) (M := 1) 40 (fun r _ _ => ite_le1 _)
  unfold cnS; omega
def midS (W : Nat → Nat) : Int32 := if sg W 40 = 0 then -9 else ff (fun r => decide (sg W 40 ≤ 2 * sg W r)) 40 1
theorem bitL_lf (W : Nat → Nat) (r : Nat) : bitL (lfM W) r = (decide (1 ≤ r ∧ r ≤ 40) && decide (W r ≠ 0)) := bitL_msk _ r 40 (by omega)
theorem wt_left (W : Nat → Nat) : wtS W (bitL (lfM W)) = sg W 40 := sg_congr 40 (fun r h1 h2 => by
  rw [bitL_lf]
  by_cases h : W r = 0
  · simp [h]
  · simp [h, h1, h2])
theorem sg_mono {W : Nat → Nat} {a b : Nat} (h : a ≤ b) : sg W a ≤ sg W b := by
  induction b with
  | zero => have : a = 0 := by omega
            subst this; exact Nat.le_refl _
  | succ b ih =>
    rcases Nat.eq_or_lt_of_le h with h | h
    · rw [h]; exact Nat.le_refl _
    · have := ih (by omega); simp only [sg]; omega
theorem gcd_swap (u v : Nat) : Nat.gcd u v = Nat.gcd v (u % v) := by rw [Nat.gcd_comm u v, Nat.gcd_rec v u, Nat.gcd_comm]
theorem gcd_le (a b : Nat) : Nat.gcd a b ≤ a + b := by
  rcases Nat.eq_zero_or_pos a with h | h
  · subst h; rw [Nat.gcd_zero_left]; omega
  · have := Nat.gcd_le_left b h; omega
theorem cp_step {U V : Nat → Nat} {i : Nat} (h : ∀ j, j < i → U j = V j) : ∀ j, j < i + 1 → updN U i (V i) j = V j := by
  intro j hj
  simp only [updN]
  by_cases e : j = i
  · rw [if_pos e, e]
  · rw [if_neg e]; exact h j (by omega)
