/-! ===== what the class and the reference both answer, over plain numbers ===== -/
def hwN (v : Nat) : Nat → Nat
  | 0 => v
  | n + 1 => hwN v n + (hwN v n + 1) / 2
theorem hwN_le (v : Nat) : ∀ n, hwN v n ≤ v * 2 ^ n
  | 0 => by simp [hwN]
  | n + 1 => by
    have ih := hwN_le v n
    have e : v * 2 ^ (n + 1) = v * 2 ^ n + v * 2 ^ n := by rw [Nat.pow_succ, ← Nat.mul_assoc]; omega
    rw [e]; simp only [hwN]; omega
theorem pow_le_6 {i : Nat} (h : i ≤ 6) : 2 ^ i ≤ 64 := Nat.pow_le_pow_right (by omega) h
theorem mul_le_c {a b x y : Nat} (h1 : a ≤ x) (h2 : b ≤ y) : a * b ≤ x * y := Nat.mul_le_mul h1 h2
theorem hwN_b {v i : Nat} (hv : v ≤ 40) (hi : i ≤ 6) : hwN v i ≤ 2560 := Nat.le_trans (hwN_le v i) (mul_le_c hv (pow_le_6 hi))
/-- the seconds of a band, without the limit -/
def sec0 (sk nb st v i : Nat) : Nat := if sk = 1 then v * 2 ^ i + (if i = 0 then 0 else st - 1) else if sk = 2 then hwN v i + (if i = 0 then 0 else st - 1) else if sk = 3 then v + (nb - 1 - i) * st else v + i * st
def secN (sk nb st v i : Nat) : Nat := min 240 (sec0 sk nb st v i)
theorem sec0_b {sk nb st v i : Nat} (hv : v ≤ 40) (hi : i ≤ 6) (hn : nb ≤ 7) (hs : st ≤ 9) : sec0 sk nb st v i ≤ 3000 := by
  have h1 := mul_le_c hv (pow_le_6 hi)
  have h2 := hwN_b hv hi
  have h3 : (nb - 1 - i) * st ≤ 6 * 9 := mul_le_c (by omega) hs
  have h4 : i * st ≤ 6 * 9 := mul_le_c hi hs
  unfold sec0
  repeat' split
  all_goals omega
theorem secN_le (sk nb st v i : Nat) : secN sk nb st v i ≤ 240 := Nat.min_le_left _ _
/-- a strip laid: the seconds of the first n bands, the rest as it was -/
def layQ (sk nb st v : Nat) (q : Nat → Nat) (n : Nat) : Nat → Nat := fun j => if j < n then secN sk nb st v j else q j
theorem layQ_step (sk nb st v : Nat) (q : Nat → Nat) (n : Nat) : updN (layQ sk nb st v q n) n (secN sk nb st v n) = layQ sk nb st v q (n + 1) := by
  funext j
  simp only [updN, layQ]
  by_cases h : j = n
  · subst h; simp
  · rw [if_neg h]
    by_cases h2 : j < n
    · rw [if_pos h2, if_pos (by omega)]
    · rw [if_neg h2, if_neg (by omega)]
theorem layQ_0 (sk nb st v : Nat) (q : Nat → Nat) : layQ sk nb st v q 0 = q := by funext j; simp [layQ]
/-- band i is rather told than band b -/
def btr (q : Nat → Nat) (x : Nat) (slow : Bool) (i b : Nat) : Bool := decide (dst (q i) x < dst (q b) x) || (decide (dst (q i) x = dst (q b) x) && (if slow = true then decide (q b ≤ q i) else decide (q i < q b)))
def nearQ (q : Nat → Nat) (x : Nat) (slow : Bool) : Nat → Nat
  | 0 => 0
  | i + 1 => if btr q x slow (i + 1) (nearQ q x slow i) = true then i + 1 else nearQ q x slow i
theorem nearQ_le (q : Nat → Nat) (x : Nat) (slow : Bool) : ∀ n, nearQ q x slow n ≤ n
  | 0 => Nat.le_refl 0
  | n + 1 => by
    have ih := nearQ_le q x slow n
    simp only [nearQ]; split <;> omega
def soN (ek fg r : Nat) : Nat := r + (if ek = 1 then fg else if ek = 2 then fg - 1 else 0)
def slN (ek : Nat) : Bool := decide (ek = 3) || decide (ek = 4)
def tellQ (q : Nat → Nat) (nb ek fg r : Nat) : Nat := if ek = 4 ∧ fg < dst (q (nearQ q (soN ek fg r) (slN ek) (nb - 1))) (soN ek fg r) then 8 else nearQ q (soN ek fg r) (slN ek) (nb - 1)
/-- the band that is told: strips of kind sk with nb bands and step st from v, eyes of kind ek with figure fg, r right -/
def tl (nb st fg sk ek v r : Nat) : Nat := tellQ (secN sk nb st v) nb ek fg r
theorem soN_b {ek fg r : Nat} (he : ek ≤ 4) (hf : fg ≤ 9) (hr : r ≤ 40) : soN ek fg r ≤ 60 := by
  unfold soN; repeat' split
  all_goals omega
theorem soN_add (ek fg r : Nat) : r + soN ek fg 0 = soN ek fg r := by unfold soN; omega
theorem near_step {q : Nat → Nat} {x : Nat} {sl : Bool} {i f le ra : Nat} (hf : f = nearQ q x sl (i - 1)) (hle : le = dst (q f) x) (hra : ra = (if (if sl = true then decide (q f ≤ q i) else decide (q i < q f)) = true then 1 else 0)) (hi : 1 ≤ i) : nearQ q x sl i = if (dst (q i) x < le ∨ (dst (q i) x = le ∧ ra ≠ 0)) then i else f := by
  obtain ⟨k, rfl⟩ : ∃ k, i = k + 1 := ⟨i - 1, by omega⟩
  rw [show k + 1 - 1 = k by omega] at hf
  simp only [nearQ, ← hf, btr, ← hle, hra]
  by_cases h : (if sl = true then decide (q f ≤ q (k + 1)) else decide (q (k + 1) < q f)) = true
  · simp [h]
  · simp [h]
theorem near_back {q : Nat → Nat} {x : Nat} {sl : Bool} {i f le ra nb : Nat} (hf : f = nearQ q x sl (i - 1)) (hle : le = dst (q f) x) (hra : ra = (if (if sl = true then decide (q f ≤ q i) else decide (q i < q f)) = true then 1 else 0)) (hi : 1 ≤ i) (hn : i < nb) (h : dst (q i) x < le ∨ (dst (q i) x = le ∧ ra ≠ 0)) : i = nearQ q x sl (i + 1 - 1) ∧ dst (q i) x = dst (q i) x ∧ 1 ≤ i + 1 ∧ i + 1 ≤ nb := by
  refine ⟨?_, rfl, by omega, by omega⟩
  rw [show i + 1 - 1 = i by omega, near_step hf hle hra hi, if_pos h]
theorem near_stay {q : Nat → Nat} {x : Nat} {sl : Bool} {i f le ra nb : Nat} (hf : f = nearQ q x sl (i - 1)) (hle : le = dst (q f) x) (hra : ra = (if (if sl = true then decide (q f ≤ q i) else decide (q i < q f)) = true then 1 else 0)) (hi : 1 ≤ i) (hn : i < nb) (h : ¬ (dst (q i) x < le ∨ (dst (q i) x = le ∧ ra ≠ 0))) : f = nearQ q x sl (i + 1 - 1) ∧ le = dst (q f) x ∧ 1 ≤ i + 1 ∧ i + 1 ≤ nb := by
  refine ⟨?_, hle, by omega, by omega⟩
  rw [show i + 1 - 1 = i by omega, near_step hf hle hra hi, if_neg h]
theorem ite_le1 (P : Prop) [Decidable P] : (if P then 1 else 0 : Nat) ≤ 1 := by split <;> omega
theorem leastN_le (k : Nat) : leastN k ≤ 2 := by unfold leastN; repeat' split
                                                 all_goals omega
theorem greatN_le (k : Nat) : greatN k ≤ 99 := by unfold greatN; repeat' split
                                                  all_goals omega
