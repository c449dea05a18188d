/-! ===== the letters: how a statement is read ===== -/
def ltI (tx : Nat → Nat) (tn p : Nat) : Int32 := if p < tn then nI (tx p) else -1
def dg (tx : Nat → Nat) (p : Nat) : Nat := tx p - 48
def pr2 (tx : Nat → Nat) (p : Nat) : Nat := dg tx p * 10 + dg tx (p + 1)
def fmI (x : Int32) : Nat := if x.toInt = 108 then 0 else if x.toInt = 98 then 1 else if x.toInt = 115 then 2 else if x.toInt = 101 then 3 else if x.toInt = 112 then 4 else if x.toInt = 116 then 5 else 6
def fmN (c : Nat) : Nat := if c = 108 then 0 else if c = 98 then 1 else if c = 115 then 2 else if c = 101 then 3 else if c = 112 then 4 else if c = 116 then 5 else 6
theorem fmI_b (x : Int32) : fmI x ≤ 6 := by unfold fmI; (repeat' split) <;> omega
theorem fmN_b (c : Nat) : fmN c ≤ 6 := by unfold fmN; (repeat' split) <;> omega
theorem fmI_n {c : Nat} (h : c < 256) : fmI (nI c) = fmN c := by
  unfold fmI fmN; rw [nI_toInt (by omega)]
  (repeat' split) <;> omega
theorem fmI_m : fmI (-1) = 6 := by decide
def okc (f c : Nat) : Bool := if f = 48 then decide (48 ≤ c ∧ c ≤ 57) else if f = 115 then decide (ixN (fb 7) c 4 0 < 4) else if f = 101 then decide (ixN (fb 8) c 5 0 < 5) else decide (c = f)
theorem ixJ_neg {f : Nat → Nat} {c n : Nat} (hn : n < 100) : (ixJ f c n).toInt < 0 ↔ ¬ ixN f c n 0 < n := by
  unfold ixJ
  by_cases h : ixN f c n 0 < n
  · rw [if_pos h, nI_toInt (by omega)]; omega
  · rw [if_neg h]; exact ⟨fun _ => h, fun _ => by decide⟩
theorem ixJ_yes {f : Nat → Nat} {c n : Nat} (h : ixN f c n 0 < n) : ixJ f c n = nI (ixN f c n 0) := if_pos h
/-- one letter read: at, well -/
def st1 (P : Nat → Bool) (tx : Nat → Nat) (tn : Nat) (q : Nat × Nat) : Nat × Nat := if q.2 = 1 ∧ q.1 < tn ∧ P (tx q.1) = true then (q.1 + 1, 1) else (q.1, 0)
def scn (tx : Nat → Nat) (tn i : Nat) : Nat → Nat × Nat → Nat × Nat
  | 0, q => q
  | k + 1, q => st1 (okc (fb i k)) tx tn (scn tx tn i k q)
section SCN
variable {tx : Nat → Nat} {tn i : Nat} {q : Nat × Nat}
theorem scn_0 : ∀ k, q.2 ≠ 1 → q.2 = 0 → scn tx tn i k q = q
  | 0, _, _ => rfl
  | k + 1, h, h0 => by
    show st1 _ tx tn (scn tx tn i k q) = q
    rw [scn_0 k h h0]
    unfold st1; rw [if_neg (fun z => h z.1), ← h0]
theorem scn_stay {k : Nat} (h : (scn tx tn i k q).2 = 0) : ∀ m, scn tx tn i (k + m) q = scn tx tn i k q
  | 0 => rfl
  | m + 1 => by
    show st1 _ tx tn (scn tx tn i (k + m) q) = _
    rw [scn_stay h m]
    unfold st1; rw [if_neg (fun z => by rw [h] at z; exact absurd z.1 (by decide)), ← h]
theorem scn_yes {k a : Nat} (h : scn tx tn i k q = (a, 1)) (hlt : a < tn) (ho : okc (fb i k) (tx a) = true) : scn tx tn i (k + 1) q = (a + 1, 1) := by
  show st1 _ tx tn (scn tx tn i k q) = _
  rw [h]; unfold st1; rw [if_pos ⟨rfl, hlt, ho⟩]
theorem scn_no {k a n : Nat} (h : scn tx tn i k q = (a, 1)) (hn : k < n) (ho : ¬ (a < tn ∧ okc (fb i k) (tx a) = true)) : scn tx tn i n q = (a, 0) := by
  have h1 : scn tx tn i (k + 1) q = (a, 0) := by
    show st1 _ tx tn (scn tx tn i k q) = _
    rw [h]; unfold st1; rw [if_neg (fun z => ho z.2)]
  have h2 := scn_stay (k := k + 1) (by rw [h1]) (n - (k + 1))
  rw [show k + 1 + (n - (k + 1)) = n by omega, h1] at h2
  exact h2
theorem scn_01 : ∀ k, q.2 = 0 ∨ q.2 = 1 → (scn tx tn i k q).2 = 0 ∨ (scn tx tn i k q).2 = 1
  | 0, h => h
  | k + 1, _ => by
    show (st1 (okc (fb i k)) tx tn (scn tx tn i k q)).2 = 0 ∨ (st1 (okc (fb i k)) tx tn (scn tx tn i k q)).2 = 1
    unfold st1; split
    · exact Or.inr rfl
    · exact Or.inl rfl
theorem scn_ok : ∀ n, (scn tx tn i n q).2 = 1 → q.2 = 1 ∧ (scn tx tn i n q).1 = q.1 + n ∧ ∀ k, k < n → q.1 + k < tn ∧ okc (fb i k) (tx (q.1 + k)) = true
  | 0, h => ⟨h, rfl, fun k hk => absurd hk (Nat.not_lt_zero _)⟩
  | n + 1, h => by
    have e : scn tx tn i (n + 1) q = st1 (okc (fb i n)) tx tn (scn tx tn i n q) := rfl
    rw [e] at h ⊢
    unfold st1 at h ⊢
    by_cases c : (scn tx tn i n q).2 = 1 ∧ (scn tx tn i n q).1 < tn ∧ okc (fb i n) (tx (scn tx tn i n q).1) = true
    · rw [if_pos c]
      obtain ⟨h1, h2, h3⟩ := scn_ok n c.1
      refine ⟨h1, by show (scn tx tn i n q).1 + 1 = _; omega, fun k hk => ?_⟩
      rcases (show k < n ∨ k = n by omega) with e2 | e2
      · exact h3 k e2
      · subst e2; rw [← h2]; exact c.2
    · rw [if_neg c] at h; exact absurd (show (0 : Nat) = 1 from h) (by decide)
theorem scn_le : ∀ n, (scn tx tn i n q).1 ≤ max q.1 tn
  | 0 => by simp only [scn]; omega
  | n + 1 => by
    have ih := scn_le n
    show (st1 _ tx tn (scn tx tn i n q)).1 ≤ _
    unfold st1; split
    · next h => show (scn tx tn i n q).1 + 1 ≤ _; omega
    · exact ih
end SCN
/-- a statement from p: where its reading ends, and whether well -/
def stm (tx : Nat → Nat) (tn p : Nat) : Nat × Nat := if p < tn ∧ fmN (tx p) < 6 then scn tx tn (fmN (tx p)) (ln (fmN (tx p))) (p + 1, 1) else (p, 0)
theorem stm_01 (tx : Nat → Nat) (tn p : Nat) : (stm tx tn p).2 = 0 ∨ (stm tx tn p).2 = 1 := by
  unfold stm; split
  · exact scn_01 _ (Or.inr rfl)
  · exact Or.inl rfl
theorem stm_ok {tx : Nat → Nat} {tn p : Nat} (h : (stm tx tn p).2 = 1) : p < tn ∧ fmN (tx p) < 6 ∧ (stm tx tn p).1 = p + 1 + ln (fmN (tx p)) ∧ ∀ k, k < ln (fmN (tx p)) → p + 1 + k < tn ∧ okc (fb (fmN (tx p)) k) (tx (p + 1 + k)) = true := by
  unfold stm at h ⊢
  by_cases c : p < tn ∧ fmN (tx p) < 6
  · rw [if_pos c] at h ⊢
    obtain ⟨-, h2, h3⟩ := scn_ok _ h
    exact ⟨c.1, c.2, h2, h3⟩
  · rw [if_neg c] at h; exact absurd (show (0 : Nat) = 1 from h) (by decide)
theorem stm_le (tx : Nat → Nat) {tn p : Nat} (hp : p ≤ tn) : (stm tx tn p).1 ≤ tn := by
  unfold stm; split
  · have := scn_le (tx := tx) (tn := tn) (i := fmN (tx p)) (q := (p + 1, 1)) (ln (fmN (tx p)))
    next h => simp only at this; omega
  · exact hp
/-- all statements, from p on -/
def ms (tx : Nat → Nat) (tn : Nat) : Nat → Nat → Nat × Nat
  | 0, p => (p, 1)
  | d + 1, p => if (stm tx tn p).2 = 1 ∧ (stm tx tn p).1 < tn then ms tx tn d (stm tx tn p).1 else stm tx tn p
def cn (tx : Nat → Nat) (tn : Nat) : Nat → Nat → Nat
  | 0, _ => 0
  | d + 1, p => if p < tn then 1 + cn tx tn d (stm tx tn p).1 else 0
/-- the fields of a statement from p -/
def fdP (tx : Nat → Nat) (p j : Nat) : Nat :=
  if fmN (tx p) = 0 then (if j = 0 then pr2 tx (p + 1) else if j = 1 then pr2 tx (p + 3) else dg tx (p + 5))
  else if fmN (tx p) = 1 then dg tx (p + 1)
  else if fmN (tx p) = 2 then (if j = 0 then ixN (fb 7) (tx (p + 1)) 4 0 else dg tx (p + 2))
  else if fmN (tx p) = 3 then (if j = 0 then ixN (fb 8) (tx (p + 1)) 5 0 else dg tx (p + 2))
  else if fmN (tx p) = 4 then (if j = 0 then pr2 tx (p + 1) else pr2 tx (p + 3))
  else (if j = 0 then pr2 tx (p + 1) else dg tx (p + 3))
/-- whether a statement comes, and what is then -/
def effB (S : Nat → Nat) (si : Nat) (fd : Nat → Nat) : Bool :=
  if si = 0 then decide ((1 ≤ fd 0 ∧ fd 0 ≤ 40) ∧ (1 ≤ fd 1 ∧ fd 1 ≤ 40) ∧ fd 0 ≤ fd 1)
  else if si = 1 then decide (2 ≤ fd 0 ∧ fd 0 ≤ 7)
  else if si = 2 then decide (0 < fd 1)
  else if si = 3 then true
  else if si = 4 then true
  else decide ((1 ≤ fd 0 ∧ fd 0 ≤ 40) ∧ S 48 ≠ 99 ∧ cnS (prt (tlS S) (lpB S) (fd 0) (fd 1)) ≠ 0)
def effS (S : Nat → Nat) (si : Nat) (fd : Nat → Nat) : Nat → Nat :=
  if si = 0 then fillE S (fd 0) (fd 1 + 1) (fd 2)
  else if si = 1 then updN S 41 (fd 0)
  else if si = 2 then updN (updN S 46 (fd 0)) 42 (fd 1)
  else if si = 3 then updN (updN S 47 (fd 0)) 43 (fd 1)
  else if si = 4 then updN (updN S 44 (fd 0)) 45 (fd 1)
  else updN (cutN S (prt (tlS S) (lpB S) (fd 0) (fd 1)) 40) 48 (S 48 + 1)
/-- all statements come, from p on: what is then, and 1 behind the place of the first that does not -/
def run (tx : Nat → Nat) (tn : Nat) : Nat → Nat → (Nat → Nat) → (Nat → Nat) × Nat
  | 0, _, S => (S, 0)
  | d + 1, p, S => if p < tn then (if effB S (fmN (tx p)) (fdP tx p) = true then run tx tn d (stm tx tn p).1 (effS S (fmN (tx p)) (fdP tx p)) else (S, p + 1)) else (S, 0)
theorem okc_d {c : Nat} (h : okc 48 c = true) : 48 ≤ c ∧ c ≤ 57 := by
  unfold okc at h; rw [if_pos rfl] at h; exact of_decide_eq_true h
theorem ms_go {tx : Nat → Nat} {tn d p : Nat} (h : (stm tx tn p).2 = 1) (hlt : (stm tx tn p).1 < tn) : ms tx tn (d + 1) p = ms tx tn d (stm tx tn p).1 := if_pos ⟨h, hlt⟩
theorem ms_end {tx : Nat → Nat} {tn d p : Nat} (h : ¬ ((stm tx tn p).2 = 1 ∧ (stm tx tn p).1 < tn)) : ms tx tn (d + 1) p = stm tx tn p := if_neg h
theorem fm_case {tx : Nat → Nat} {tn p i : Nat} (htx : ∀ j, tx j < 256) (hi : i = fmI (ltI tx tn p)) : (ln i = 0 → stm tx tn p = (p, 0)) ∧ (ln i ≠ 0 → stm tx tn p = scn tx tn i (ln i) (p + 1, 1)) := by
  unfold ltI at hi
  by_cases hp : p < tn
  · rw [if_pos hp, fmI_n (htx p)] at hi
    have hb := fmN_b (tx p)
    unfold stm
    rw [← hi] at hb ⊢
    constructor
    · intro h
      rw [if_neg]
      intro z
      have : ∀ j, j < 6 → ln j ≠ 0 := by decide
      exact this i z.2 h
    · intro h
      rw [if_pos]
      refine ⟨hp, ?_⟩
      rcases (show i < 6 ∨ i = 6 by omega) with e | e
      · exact e
      · rw [e] at h; exact absurd rfl h
  · rw [if_neg hp, fmI_m] at hi
    subst hi
    constructor
    · intro _; unfold stm; rw [if_neg (fun z => hp z.1)]
    · intro h; exact absurd rfl h
