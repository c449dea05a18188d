/-! ===== values of the public methods ===== -/
def mvN (t : Nat → Nat → Nat) (W : Nat → Nat) (p : Nat → Bool) (bb v : Nat) : Nat := if bb = 1 then meS t W p v else if bb = 2 then paS t p v else woS t p v
theorem msI_abs (t : Nat → Nat → Nat) (W : Nat → Nat) (p : Nat → Bool) (bb v : Nat) : (msI t W p bb v).natAbs = mvN t W p bb v := by
  unfold msI mvN; split
  · exact Int.natAbs_natCast _
  · split
    · rw [Int.natAbs_neg]; exact Int.natAbs_natCast _
    · exact Int.natAbs_natCast _
theorem mvN_b {t : Nat → Nat → Nat} {L : Nat → Nat} {p : Nat → Bool} {bb v : Nat} (h : ∀ j, j ≤ 40 → L j ≤ 9) : mvN t L p bb v ≤ 129600 := by
  have h1 := paS_b t p v
  have h2 := woS_b t p v
  have h3 := wS_b (t := t) (p := p) (v := v) h
  unfold mvN; (repeat' split) <;> omega
theorem bsI_in (t : Nat → Nat → Nat) (W : Nat → Nat) (p : Nat → Bool) (bb : Nat) : 1 ≤ bsI t W p bb ∧ bsI t W p bb ≤ 40 := am_in _ 40
theorem iI_absE {z : Int} (hz : -200000 ≤ z ∧ z ≤ 200000) : (if 0 ≤ iI z then iI z else 0 - iI z) = nI z.natAbs := by
  by_cases h : 0 ≤ z
  · rw [if_pos (Int32.le_iff_toInt_le.mpr (by rw [iI_T hz.1 hz.2]; exact h))]
    obtain ⟨n, rfl⟩ := Int.eq_ofNat_of_zero_le h
    rfl
  · rw [if_neg (fun q => h (by have := Int32.le_iff_toInt_le.mp q; rw [iI_T hz.1 hz.2] at this; exact this)), Int32.zero_sub]
    obtain ⟨n, rfl⟩ : ∃ n : Nat, z = -(n : Int) := ⟨z.natAbs, by omega⟩
    rw [← neg_iI, Int32.neg_neg, Int.natAbs_neg, Int.natAbs_natCast]
section RWZ
variable {p : Program} {l : Launch} {e : Env} {R : Room} {s : State} {m : MethodId} {args : Array Value} {below : List Frame} {meth : Method} {c : Code} {H : Heap} {locs : List Loc} {cells slots : Nat} {Q : State → Prop} {cc : ByteArray} {nL : Nat} {Ts : List Cond} {own : String} {rt : Option FieldType} {g : EE} {A : Nat → Prop} {ws : va_W} {pc : Nat} {ls : Array Slot} {rest : List Value}
theorem xabsZ (F : Fx p s m args meth c cc nL Ts own rt g A) (hsz : ls.size = nL) {index : Nat} (h1 : Cond.methodLink own index Lib.Math.abs.name ∈ Ts) (h2 : Cond.static Lib.Math.abs.name ∈ Ts) (h3 : Cond.initialized "java/lang/Math" ∈ Ts) (h4 : Cond.code Lib.Math.abs.name Lib.Math.abs.code 1 (some .int) ∈ Ts) (hfr : 1 ≤ R.frames) (hlo : (rest.map fun v => v.category).sum + 13 ≤ R.locals) (hc : cells ≤ R.cells ∧ slots ≤ R.slots) {z : Int} (hz : -200000 ≤ z ∧ z ≤ 200000) (hdg : decode cc pc = .ok (.invokestatic index, 3)) (kk : W p l e R s m args below meth c H locs cells slots Q (F0 m (pc + 3) ls (.int (nI z.natAbs) :: rest))) : W p l e R s m args below meth c H locs cells slots Q (F0 m pc ls (.int (iI z) :: rest)) := by
  obtain ⟨hx, hb, hml, hown, hts, hK, hX, hA, hr, hlocks⟩ := F
  exact va_mabs hx hb (hml.trans hsz.symm) hown (hts _ h1) (hts _ h2) (hts _ h3) (hts _ h4) hfr hlo hc.1 hc.2 hdg (sti (iI_absE hz) kk)
end RWZ
/-- the first of 0 .. n with the least f -/
def bk (f : Nat → Nat) : Nat → Nat
  | 0 => 0
  | n + 1 => if f (n + 1) < f (bk f n) then n + 1 else bk f n
theorem bk_le (f : Nat → Nat) : ∀ n, bk f n ≤ n
  | 0 => Nat.le_refl 0
  | n + 1 => by
    have ih := bk_le f n
    simp only [bk]; split <;> omega
theorem bk_new {f : Nat → Nat} {i b le : Nat} (hb : b = bk f (i - 1)) (hle : i ≠ 0 → le = f b) (h : i = 0 ∨ f i < le) : i = bk f (i + 1 - 1) := by
  rcases i with _ | k
  · rfl
  · rw [show k + 1 - 1 = k by omega] at hb
    have h2 : f (k + 1) < f b := by have := hle (by omega); omega
    show k + 1 = bk f (k + 1)
    simp only [bk]; rw [← hb, if_pos h2]
theorem bk_old {f : Nat → Nat} {i b le : Nat} (hi : i ≠ 0) (hb : b = bk f (i - 1)) (hle : i ≠ 0 → le = f b) (h : le ≤ f i) : b = bk f (i + 1 - 1) := by
  obtain ⟨k, rfl⟩ : ∃ k, i = k + 1 := ⟨i - 1, by omega⟩
  rw [show k + 1 - 1 = k by omega] at hb
  have h2 : ¬ f (k + 1) < f b := by have := hle (by omega); omega
  show b = bk f (k + 1)
  simp only [bk]; rw [← hb, if_neg h2]
theorem lpB_uk {M : Nat → Nat} {k v : Nat} (hk : 40 < k) : lpB (updN M k v) = lpB M := by
  funext r
  by_cases h : 1 ≤ r ∧ r ≤ 40
  · have e : updN M k v r = M r := updN_ne (by omega)
    simp only [lpB, e]
  · simp only [lpB]; rw [decide_eq_false h]; rfl
theorem updN_2 (S : Nat → Nat) (k a b : Nat) : updN (updN S k a) k b = updN S k b := by
  funext j; simp only [updN]; split <;> rfl
/-- the greatest price below n that is worth it -/
def wr (w a b : Nat) : Nat → Int32
  | 0 => -9
  | n + 1 => if n * w + b < a then nI n else wr w a b n
def pz : Nat → Int32
  | 0 => -1
  | n + 1 => nI n
theorem iincZ (j : Nat) : nI j + Int32.ofInt (-((1 : Nat) : Int)) = pz j := by
  cases j with
  | zero => first | rfl | decide
  | succ j => exact iincM (by omega)
theorem lN_lt_sub {u a b : Nat} (hu : u < 2 ^ 40) (ha : a < 2 ^ 40) (hb : b < 2 ^ 40) : lN u < lN a - lN b ↔ u + b < a := by
  have e : lN a - lN b = Int64.ofInt ((a : Int) - (b : Int)) := (Int64.ofInt_sub (a : Int) (b : Int)).symm
  rw [e, Int64.lt_iff_toInt_lt, Int64.toInt_ofInt_of_le (by omega) (by omega), show lN u = Int64.ofInt (u : Int) from rfl, Int64.toInt_ofInt_of_le (by omega) (by omega)]
  omega
theorem nI_lt_sub {u a b : Nat} (hu : u < 2 ^ 30) (ha : a < 2 ^ 30) (hb : b < 2 ^ 30) : nI u < nI a - nI b ↔ u + b < a := by
  have e : nI a - nI b = Int32.ofInt ((a : Int) - (b : Int)) := (Int32.ofInt_sub (a : Int) (b : Int)).symm
  rw [e, Int32.lt_iff_toInt_lt, Int32.toInt_ofInt_of_le (by omega) (by omega), nI_toInt (by omega)]
  omega
theorem wr_no {w a b j : Nat} {z : Int32} (h : z = wr w a b (j + 1)) (c : ¬ j * w + b < a) : z = wr w a b j := by
  rw [h]; simp only [wr]; rw [if_neg c]
theorem wr_yes {w a b j : Nat} (c : j * w + b < a) : wr w a b (j + 1) = nI j := by
  simp only [wr]; rw [if_pos c]
theorem okS_46 {S : Nat → Nat} {i : Nat} (h : okS S) (hi : i ≤ 3) : okS (updN S 46 i) := by
  obtain ⟨h0, h1, h2, h3, h4, h5, h6, h7, h8⟩ := h
  exact ⟨fun j hj => by rw [updN_ne (by omega)]; exact h0 j hj, h1, h2, h3, h4, h5, hi, h7, h8⟩
