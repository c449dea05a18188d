/-! ===== what the reference's helpers need ===== -/
def myF (S L : Nat → Nat) (v : Nat) : Nat → Nat := fun k => cnS (prt (tlS S) (lpB L) v k)
def weF (S L : Nat → Nat) (v : Nat) : Nat → Nat := fun k => wtS L (prt (tlS S) (lpB L) v k)
theorem nI_nat_of {x : Int32} {k : Nat} (h : x.toInt = (k : Int)) (hk : k < 2 ^ 31) : x = nI k := Int32.toInt_inj.mp (by rw [nI_toInt hk]; exact h)
theorem updN_self (S : Nat → Nat) (k : Nat) : updN S k (S k) = S := by
  funext j; simp only [updN]; split
  · next h => rw [h]
  · rfl
theorem ofk {O : Nat → Int32} {L : Nat → Nat} {t : Nat → Nat → Nat} {v i k : Nat} (h1 : 1 ≤ i) (h2 : i ≤ 40) (h9 : t v i < 9) : (ofF O L t v 40 i).toInt = (k : Int) ↔ prt t (lpB L) v k i = true := by
  simp only [ofF, prt, lpB, Bool.and_eq_true, decide_eq_true_eq]
  rw [if_pos ⟨h1, h2⟩]
  by_cases h : L i = 0
  · rw [if_pos h, show ((-9 : Int32)).toInt = -9 from rfl]
    exact ⟨fun q => by omega, fun q => absurd h q.1.2⟩
  · rw [if_neg h, nI_toInt (by omega)]
    exact ⟨fun q => ⟨⟨⟨h1, h2⟩, h⟩, by omega⟩, fun q => by omega⟩
theorem cut_on {W : Nat → Nat} {p : Nat → Bool} {i : Nat} (hi : 1 ≤ i) (h : p i = true) : updN (cutN W p (i - 1)) i (cutN W p (i - 1) i) = cutN W p (i + 1 - 1) := by rw [updN_self]; exact cut_stay1 hi h
theorem lpB_cut {M : Nat → Nat} {q : Nat → Bool} (h : ∀ j, q j = true → lpB M j = true) : lpB (cutN M q 40) = q := by
  funext j
  by_cases hq : q j = true
  · have h1 := h j hq
    simp only [lpB, Bool.and_eq_true, decide_eq_true_eq] at h1
    have h2 : cutN M q 40 j = M j := by
      simp only [cutN]; rw [if_neg (fun z => by rw [hq] at z; exact absurd z.2.2 (by decide))]
    rw [hq]; simp only [lpB, h2]; simp [h1]
  · have hq2 : q j = false := by simpa using hq
    rw [hq2]; simp only [lpB]
    by_cases hj : 1 ≤ j ∧ j ≤ 40
    · have h2 : cutN M q 40 j = 0 := by simp only [cutN]; rw [if_pos ⟨hj.1, hj.2, hq2⟩]
      rw [h2]; simp
    · rw [decide_eq_false hj]; rfl
theorem prt_sub {t : Nat → Nat → Nat} {p : Nat → Bool} {v k : Nat} : ∀ j, prt t p v k j = true → p j = true := fun j h => by
  simp only [prt, Bool.and_eq_true] at h; exact h.1
theorem lpB_prt {M : Nat → Nat} {t : Nat → Nat → Nat} {v k : Nat} : lpB (cutN M (prt t (lpB M) v k) 40) = prt t (lpB M) v k := lpB_cut prt_sub
theorem cutN_le {M : Nat → Nat} {q : Nat → Bool} {n : Nat} (h : ∀ j, j ≤ 40 → M j ≤ 9) : ∀ j, j ≤ 40 → cutN M q n j ≤ 9 := fun j hj => by
  simp only [cutN]; split
  · omega
  · exact h j hj
theorem faS_lin (L : Nat → Nat) (fa u : Nat) : sg (fun r => L r * fa * dst u r) 40 = faS L (lpB L) u * fa := by
  have key : ∀ n, n ≤ 40 → sg (fun r => L r * fa * dst u r) n = sg (fun r => if lpB L r = true then L r * dst u r else 0) n * fa := by
    intro n
    induction n with
    | zero => intro _; simp [sg]
    | succ n ih =>
      intro hn
      simp only [sg]
      rw [ih (by omega), Nat.add_mul]
      congr 1
      by_cases h : L (n + 1) = 0
      · simp [h]
      · have : lpB L (n + 1) = true := by simp only [lpB, Bool.and_eq_true, decide_eq_true_eq]; exact ⟨⟨by omega, hn⟩, h⟩
        rw [if_pos this, Nat.mul_assoc, Nat.mul_comm fa, ← Nat.mul_assoc]
  exact key 40 (Nat.le_refl _)
theorem faS_cut {M : Nat → Nat} {q : Nat → Bool} {u : Nat} (h : ∀ j, q j = true → lpB M j = true) : faS (cutN M q 40) (lpB (cutN M q 40)) u = faS M q u := by
  rw [lpB_cut h]
  refine sg_congr 40 (fun r h1 h2 => ?_)
  cases hq : q r with
  | false => rfl
  | true =>
    rw [if_pos rfl, if_pos rfl]
    simp only [cutN]; rw [if_neg (fun z => by rw [hq] at z; exact absurd z.2.2 (by decide))]
theorem giS_cut {M : Nat → Nat} {q : Nat → Bool} {fa : Nat} (h : ∀ j, q j = true → lpB M j = true) : giS (cutN M q 40) (lpB (cutN M q 40)) fa = giS M q fa := by
  unfold giS
  congr 1
  funext v
  rw [faS_cut h]
/-- one part alone, or the worst is less than all -/
theorem one_part (f : Nat → Nat) : ∀ n, mz f n ≤ sz f n ∧ (sz (fun k => if f k = 0 then 0 else 1) n = 0 ↔ sz f n = 0) ∧ (sz (fun k => if f k = 0 then 0 else 1) n ≤ 1 ↔ sz f n ≤ mz f n)
  | 0 => by simp [sz, mz]
  | n + 1 => by
    obtain ⟨h1, h2, h3⟩ := one_part f n
    simp only [sz, mz]
    by_cases h : f n = 0
    · rw [h, if_pos rfl, Nat.add_zero, Nat.add_zero, Nat.max_zero]; exact ⟨h1, h2, h3⟩
    · rw [if_neg h]
      refine ⟨by omega, by omega, ?_⟩
      constructor
      · intro q
        have : sz f n = 0 := h2.mp (by omega)
        omega
      · intro q
        have : sz f n = 0 := by omega
        have := h2.mpr this
        omega
theorem sz_sg (f : Nat → Nat → Nat) (m : Nat) : ∀ n, sz (fun k => sg (f k) n) m = sg (fun r => sz (fun k => f k r) m) n := by
  intro n
  induction n with
  | zero => exact sz_zero m (fun k _ => rfl)
  | succ n ih =>
    simp only [sg]
    rw [← ih]
    have : ∀ m, sz (fun k => sg (f k) n + f k (n + 1)) m = sz (fun k => sg (f k) n) m + sz (fun k => f k (n + 1)) m := by
      intro m
      induction m with
      | zero => rfl
      | succ m ihm => simp only [sz]; omega
    exact this m
theorem one_k (z : Nat) : ∀ n, sz (fun k => if z = k then 1 else 0) n = if z < n then 1 else 0
  | 0 => by simp [sz]
  | n + 1 => by
    simp only [sz]; rw [one_k z n]
    by_cases h : z = n
    · rw [if_pos h, if_neg (by omega), if_pos (by omega)]
    · rw [if_neg h]
      by_cases h2 : z < n
      · rw [if_pos h2, if_pos (by omega)]
      · rw [if_neg h2, if_neg (by omega)]
theorem parts_sum {t : Nat → Nat → Nat} {p : Nat → Bool} {v : Nat} (h9 : ∀ v r, t v r < 9) : sz (fun k => cnS (prt t p v k)) 9 = cnS p := by
  unfold cnS
  rw [sz_sg]
  refine sg_congr 40 (fun r _ _ => ?_)
  cases hp : p r with
  | false => exact sz_zero 9 (fun k _ => by simp [prt, hp])
  | true =>
    rw [if_pos rfl]
    have e : sz (fun k => if prt t p v k r = true then 1 else 0) 9 = sz (fun k => if t v r = k then 1 else 0) 9 := sz_congr 9 (fun k _ => by simp [prt, hp])
    rw [e, one_k, if_pos (h9 v r)]
theorem part_one {t : Nat → Nat → Nat} {p : Nat → Bool} {v : Nat} (h9 : ∀ v r, t v r < 9) (hp : cnS p ≠ 0) : paS t p v = 1 ↔ cnS p ≤ woS t p v := by
  obtain ⟨-, h2, h3⟩ := one_part (fun k => cnS (prt t p v k)) 9
  rw [parts_sum h9] at h2 h3
  unfold paS woS
  constructor
  · intro h; exact h3.mp (by omega)
  · intro h
    have a := h3.mpr h
    have b : sz (fun k => if cnS (prt t p v k) = 0 then 0 else 1) 9 ≠ 0 := fun q => hp (h2.mp q)
    omega
theorem cnS_pos {p : Nat → Bool} {r : Nat} (h1 : 1 ≤ r) (h2 : r ≤ 40) (h : p r = true) : cnS p ≠ 0 := fun q => by
  have := cnS_0 q r h1 h2
  rw [this] at h; exact absurd h (by decide)
theorem enS_step {t : Nat → Nat → Nat} {p : Nat → Bool} {n r d : Nat} (h1 : ¬ cnS p ≤ 1) (h2 : ¬ cnS p ≤ woS t p (bv t p)) : enS t (d + 1) p n r = enS t d (prt t p (bv t p) (t (bv t p) r)) (n + 1) r := by
  show (if cnS p ≤ 1 then _ else if cnS p ≤ woS t p (bv t p) then _ else _) = _
  rw [if_neg h1, if_neg h2]
def iI (z : Int) : Int32 := Int32.ofInt z
theorem iI_T {z : Int} (h1 : -200000 ≤ z) (h2 : z ≤ 200000) : (iI z).toInt = z := Int32.toInt_ofInt_of_le (by omega) (by omega)
theorem iI_lt {a b : Int} (ha : -200000 ≤ a ∧ a ≤ 200000) (hb : -200000 ≤ b ∧ b ≤ 200000) : iI a < iI b ↔ a < b := by
  rw [Int32.lt_iff_toInt_lt, iI_T ha.1 ha.2, iI_T hb.1 hb.2]
theorem iI_le {a b : Int} (ha : -200000 ≤ a ∧ a ≤ 200000) (hb : -200000 ≤ b ∧ b ≤ 200000) : iI a ≤ iI b ↔ a ≤ b := by
  rw [Int32.le_iff_toInt_le, iI_T ha.1 ha.2, iI_T hb.1 hb.2]
theorem nI_iI (n : Nat) : nI n = iI (n : Int) := rfl
theorem neg_iI (n : Nat) : -nI n = iI (-(n : Int)) := ((Int32.ofInt_neg (n : Int)).trans rfl).symm
theorem wS_b {t : Nat → Nat → Nat} {L : Nat → Nat} {p : Nat → Bool} {v : Nat} (h : ∀ j, j ≤ 40 → L j ≤ 9) : meS t L p v ≤ 129600 := by
  have hw : ∀ q, wtS L q ≤ 360 := fun q => by
    have := sg_le (f := fun r => if q r = true then L r else 0) (M := 9) 40 (fun r _ h2 => by
      show (if q r = true then L r else 0) ≤ 9
      split
      · exact h r h2
      · omega)
    unfold wtS; omega
  have := sz_le (f := fun k => wtS L (prt t p v k) * cnS (prt t p v k)) (M := 360 * 40) 9 (fun k _ => mul_le_c (hw _) (cnS_le _))
  unfold meS; omega
theorem msS_b {t : Nat → Nat → Nat} {L : Nat → Nat} {p : Nat → Bool} {bb v : Nat} (h : ∀ j, j ≤ 40 → L j ≤ 9) : -200000 ≤ msI t L p bb v ∧ msI t L p bb v ≤ 200000 := by
  have h1 := paS_b t p v
  have h2 := woS_b t p v
  have h3 := wS_b (t := t) (p := p) (v := v) h
  unfold msI; split
  · omega
  · split <;> omega
theorem faS_b2 {L : Nat → Nat} {p : Nat → Bool} {v fa : Nat} (h : ∀ j, j ≤ 40 → L j ≤ 9) (hv : v ≤ 40) (hf : fa ≤ 99) : faS L p v * fa ≤ 1425600 := by
  have h1 := sg_le (f := fun r => if p r = true then L r * dst v r else 0) (M := 9 * 40) 40 (fun r h1 h2 => by
    show (if p r = true then L r * dst v r else 0) ≤ _
    split
    · exact mul_le_c (h r h2) (dst_le hv h2)
    · omega)
  have h2 : faS L p v ≤ 14400 := by unfold faS; omega
  exact mul_le_c h2 hf
theorem z_step {y : Nat → Nat} {k : Nat} (h : ∀ j, j < k → y j = 0) : ∀ j, j < k + 1 → updN y k 0 j = 0 := fun j hj => by
  simp only [updN]; split
  · rfl
  · exact h j (by omega)
theorem natOf {x : Int32} (h : 0 ≤ x.toInt) : ∃ k : Nat, k < 2 ^ 31 ∧ x = nI k := by
  have h2 := Int32.toInt_lt x
  exact ⟨x.toInt.toNat, by omega, Int32.toInt_inj.mp (by rw [nI_toInt (by omega)]; omega)⟩
def cdC (x : Int32) (lo hi : Nat) : Nat := if x.toInt < (lo : Int) then 4 else if (hi : Int) < x.toInt then 6 else 0
theorem neg_nI {x : Int32} {k : Nat} (h : x = -nI k) : -x = nI k := by rw [h]; exact Int32.neg_neg
theorem gcd0 {a b : Nat} (h : Nat.gcd a b = 0) : a = 0 ∧ b = 0 := Nat.gcd_eq_zero_iff.mp h
theorem part_l {x : Int32} (h : x.toInt = 0 ∨ x.toInt = 1) : x.toInt64 = lN (if decide (x.toInt = 0) = true then 0 else 1) := by
  rcases h with h | h
  · have e : x = nI 0 := Int32.toInt_inj.mp (by rw [h]; rfl)
    subst e; rfl
  · have e : x = nI 1 := Int32.toInt_inj.mp (by rw [h]; rfl)
    subst e; rfl
theorem fr_0 {a b : Nat} {z : Bool} (h : Nat.gcd a b = 0) : frN a b z = if z = true then 0 else 1 := by
  unfold frN; rw [if_pos (gcd0 h).2]
theorem fr_n {a b : Nat} {z : Bool} (h : Nat.gcd a b ≠ 0) (hab : b = 0 → a = 0) : frN a b z = (if z = true then a else b) / Nat.gcd a b := by
  unfold frN; rw [if_neg (fun q => h (by rw [q, hab q]; rfl))]
theorem lp_on {P : Nat → Nat} {i : Nat} (h1 : 1 ≤ i) (h2 : i ≤ 40) (h : P i ≠ 0) : lpB P i = true := by
  simp only [lpB, Bool.and_eq_true, decide_eq_true_eq]; exact ⟨⟨h1, h2⟩, h⟩
theorem lp_off {P : Nat → Nat} {i : Nat} (h : P i = 0) : lpB P i = false := by simp [lpB, h]
theorem sh_back {P : Nat → Nat} {i : Nat} {z : Int32} (hf : z = ff (lpB P) (41 - i) i) (h1 : 1 ≤ i) (h2 : i ≤ 40) (hj : ∃ j, i ≤ j ∧ j ≤ 40 ∧ P j ≠ 0) (h : P i = 0) : z = ff (lpB P) (41 - (i + 1)) (i + 1) ∧ 1 ≤ i + 1 ∧ i + 1 ≤ 40 ∧ ∃ j, i + 1 ≤ j ∧ j ≤ 40 ∧ P j ≠ 0 := by
  obtain ⟨j, ha, hb, hc⟩ := hj
  have hij : i ≠ j := fun e => hc (by rw [← e]; exact h)
  exact ⟨hf.trans (ff_no h2 (lp_off h)), by omega, by omega, j, by omega, hb, hc⟩
theorem lo_back {P : Nat → Nat} {i : Nat} {z : Int32} (hf : z = fl (lpB P) i) (h1 : 1 ≤ i) (h2 : i ≤ 40) (hj : ∃ j, 1 ≤ j ∧ j ≤ i ∧ P j ≠ 0) (h : P i = 0) : z = fl (lpB P) (i - 1) ∧ 1 ≤ i - 1 ∧ i - 1 ≤ 40 ∧ ∃ j, 1 ≤ j ∧ j ≤ i - 1 ∧ P j ≠ 0 := by
  obtain ⟨j, ha, hb, hc⟩ := hj
  have hij : i ≠ j := fun e => hc (by rw [← e]; exact h)
  exact ⟨hf.trans (fl_no h1 (lp_off h)), by omega, by omega, j, ha, by omega, hc⟩
theorem ef_in {t : Nat → Nat → Nat} {p : Nat → Bool} {v r : Nat} (h : p r = true) : prt t p v (t v r) r = true := by simp [prt, h]
theorem ef_ne {t : Nat → Nat → Nat} {p : Nat → Bool} {v r : Nat} (h1 : 1 ≤ r) (h2 : r ≤ 40) (h : p r = true) : cnS (prt t p v (t v r)) ≠ 0 := cnS_pos h1 h2 (ef_in h)
