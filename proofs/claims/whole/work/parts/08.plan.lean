/-! ===== strips over sets: t v r is the band that is told of a strip from v for r ===== -/
def sz (f : Nat → Nat) : Nat → Nat
  | 0 => 0
  | n + 1 => sz f n + f n
def mz (f : Nat → Nat) : Nat → Nat
  | 0 => 0
  | n + 1 => max (mz f n) (f n)
theorem sz_congr {f f' : Nat → Nat} : ∀ n, (∀ k, k < n → f k = f' k) → sz f n = sz f' n
  | 0, _ => rfl
  | n + 1, h => by simp only [sz]; rw [sz_congr n (fun k hk => h k (by omega)), h n (by omega)]
theorem mz_congr {f f' : Nat → Nat} : ∀ n, (∀ k, k < n → f k = f' k) → mz f n = mz f' n
  | 0, _ => rfl
  | n + 1, h => by simp only [mz]; rw [mz_congr n (fun k hk => h k (by omega)), h n (by omega)]
theorem sz_le {f : Nat → Nat} {M : Nat} : ∀ n, (∀ k, k < n → f k ≤ M) → sz f n ≤ n * M
  | 0, _ => by simp [sz]
  | n + 1, h => by
    have ih := sz_le n (fun k hk => h k (by omega))
    have h1 := h n (by omega)
    simp only [sz]; rw [Nat.succ_mul]; omega
theorem mz_le {f : Nat → Nat} {M : Nat} : ∀ n, (∀ k, k < n → f k ≤ M) → mz f n ≤ M
  | 0, _ => by simp [mz]
  | n + 1, h => by
    have ih := mz_le n (fun k hk => h k (by omega))
    have h1 := h n (by omega)
    simp only [mz]; omega
def prt (t : Nat → Nat → Nat) (p : Nat → Bool) (v k : Nat) : Nat → Bool := fun r => p r && decide (t v r = k)
def tmk (t : Nat → Nat → Nat) (v k : Nat) : Int64 := mskP (fun r => decide (t v r = k)) 40
def Rdy (T : Nat → Int64) (ka : Nat) (t : Nat → Nat → Nat) : Prop := ∀ v k, 1 ≤ v → v ≤ 40 → k < 9 → T (ka + v * 9 + k) = tmk t v k
def paS (t : Nat → Nat → Nat) (p : Nat → Bool) (v : Nat) : Nat := sz (fun k => if cnS (prt t p v k) = 0 then 0 else 1) 9
def woS (t : Nat → Nat → Nat) (p : Nat → Bool) (v : Nat) : Nat := mz (fun k => cnS (prt t p v k)) 9
def meS (t : Nat → Nat → Nat) (W : Nat → Nat) (p : Nat → Bool) (v : Nat) : Nat := sz (fun k => wtS W (prt t p v k) * cnS (prt t p v k)) 9
def msI (t : Nat → Nat → Nat) (W : Nat → Nat) (p : Nat → Bool) (bb v : Nat) : Int := if bb = 1 then (meS t W p v : Int) else if bb = 2 then -(paS t p v : Int) else (woS t p v : Int)
def fbS (t : Nat → Nat → Nat) (W : Nat → Nat) (p : Nat → Bool) (fa v : Nat) : Nat := sz (fun k => faS W (prt t p v k) (giS W (prt t p v k) fa) * fa) 9
def bsI (t : Nat → Nat → Nat) (W : Nat → Nat) (p : Nat → Bool) (bb : Nat) : Nat := am (msI t W p bb) 40
theorem bitL_tmk (t : Nat → Nat → Nat) (v k r : Nat) : bitL (tmk t v k) r = (decide (1 ≤ r ∧ r ≤ 40) && decide (t v r = k)) := bitL_msk _ r 40 (by omega)
theorem bitL_prt {t : Nat → Nat → Nat} {x : Int64} (h : inS x) (v k : Nat) : bitL (tmk t v k &&& x) = prt t (bitL x) v k := by
  funext r
  rw [bitL_and, bitL_tmk]
  unfold prt
  cases hb : bitL x r with
  | false => simp
  | true => have := h r hb; simp [this]
theorem inS_and {x y : Int64} (h : inS x) : inS (y &&& x) := fun r hr => by
  rw [bitL_and] at hr
  exact h r (by simp at hr; exact hr.2)
theorem sg_zero {f : Nat → Nat} : ∀ n, sg f n = 0 → ∀ r, 1 ≤ r → r ≤ n → f r = 0
  | 0, _, r, h1, h2 => by omega
  | n + 1, h, r, h1, h2 => by
    simp only [sg] at h
    rcases Nat.eq_or_lt_of_le h2 with e | e
    · rw [e]; omega
    · exact sg_zero n (by omega) r h1 (by omega)
theorem cnS_0 {p : Nat → Bool} (h : cnS p = 0) : ∀ r, 1 ≤ r → r ≤ 40 → p r = false := fun r h1 h2 => by
  have h3 : (if p r = true then 1 else 0) = 0 := sg_zero (f := fun r => if p r = true then 1 else 0) 40 h r h1 h2
  cases hp : p r with
  | false => rfl
  | true => rw [if_pos hp] at h3; omega
theorem zero_cn {x : Int64} (h : inS x) : x = lN 0 ↔ cnS (bitL x) = 0 := by
  constructor
  · intro e; rw [e]
    exact (sg_congr (f' := fun _ => 0) 40 (fun r _ _ => by rw [bitL_0]; rfl)).trans rfl
  · intro e
    refine bitL_ext (fun r _ => ?_)
    rw [bitL_0]
    cases hb : bitL x r with
    | false => rfl
    | true =>
      have h1 := h r hb
      have h2 := cnS_0 e r h1.1 h1.2
      rw [h2] at hb; exact hb.symm
theorem part0 {t : Nat → Nat → Nat} {x : Int64} (h : inS x) {v k : Nat} : tmk t v k &&& x = lN 0 ↔ cnS (prt t (bitL x) v k) = 0 := by
  rw [zero_cn (inS_and h), bitL_prt h]
theorem wtS_0 {W : Nat → Nat} {p : Nat → Bool} (h : cnS p = 0) : wtS W p = 0 :=
  (sg_congr (f' := fun _ => 0) 40 (fun r h1 h2 => by rw [cnS_0 h r h1 h2]; rfl)).trans rfl
theorem faS_0 {W : Nat → Nat} {p : Nat → Bool} {v : Nat} (h : cnS p = 0) : faS W p v = 0 :=
  (sg_congr (f' := fun _ => 0) 40 (fun r h1 h2 => by rw [cnS_0 h r h1 h2]; rfl)).trans rfl
theorem sz_step {f : Nat → Nat} {k z : Nat} (h : f k = z) : sz f (k + 1) = sz f k + z := by simp only [sz]; rw [h]
theorem sz_skip {f : Nat → Nat} {k : Nat} (h : f k = 0) : sz f (k + 1) = sz f k := by simp only [sz]; rw [h]; rfl
theorem mz_step {f : Nat → Nat} {k z : Nat} (h : f k = z) : mz f (k + 1) = max (mz f k) z := by simp only [mz]; rw [h]
theorem mz_skip {f : Nat → Nat} {k : Nat} (h : f k = 0) : mz f (k + 1) = mz f k := by simp only [mz]; rw [h]; omega
theorem wtS_b {W : Nat → Nat} {p : Nat → Bool} (hW : ∀ j, W j ≤ 9) : wtS W p ≤ 360 := by
  have h := sg_le (f := fun r => if p r = true then W r else 0) (M := 9) 40 (fun r _ _ => by
    show (if p r = true then W r else 0) ≤ 9
    split
    · exact hW r
    · omega)
  unfold wtS; omega
theorem paS_b (t : Nat → Nat → Nat) (p : Nat → Bool) (v : Nat) : paS t p v ≤ 9 := by
  have := sz_le (f := fun k => if cnS (prt t p v k) = 0 then 0 else 1) (M := 1) 9 (fun k _ => by
    show (if cnS (prt t p v k) = 0 then 0 else 1) ≤ 1
    split <;> omega)
  unfold paS; omega
theorem woS_b (t : Nat → Nat → Nat) (p : Nat → Bool) (v : Nat) : woS t p v ≤ 40 := mz_le 9 (fun k _ => cnS_le _)
theorem meS_b {t : Nat → Nat → Nat} {W : Nat → Nat} {p : Nat → Bool} {v : Nat} (hW : ∀ j, W j ≤ 9) : meS t W p v ≤ 129600 := by
  have := sz_le (f := fun k => wtS W (prt t p v k) * cnS (prt t p v k)) (M := 360 * 40) 9 (fun k _ => mul_le_c (wtS_b hW) (cnS_le _))
  unfold meS; omega
theorem msI_b {t : Nat → Nat → Nat} {W : Nat → Nat} {p : Nat → Bool} {bb v : Nat} (hW : ∀ j, W j ≤ 9) : -200000 ≤ msI t W p bb v ∧ msI t W p bb v ≤ 200000 := by
  have h1 := paS_b t p v
  have h2 := woS_b t p v
  have h3 := meS_b (t := t) (p := p) (v := v) hW
  unfold msI; split
  · omega
  · split <;> omega
theorem fbS_b {t : Nat → Nat → Nat} {W : Nat → Nat} {p : Nat → Bool} {fa v : Nat} (hW : ∀ j, W j ≤ 9) (hf : fa ≤ 99) : fbS t W p fa v ≤ 12830400 := by
  have := sz_le (f := fun k => faS W (prt t p v k) (giS W (prt t p v k) fa) * fa) (M := 1425600) 9 (fun k _ => faS_b hW (giS_in _ _ _).2 hf)
  unfold fbS; omega
def lI (z : Int) : Int64 := Int64.ofInt z
theorem lN_lI (n : Nat) : lN n = lI (n : Int) := rfl
theorem lI_T {z : Int} (h1 : -200000 ≤ z) (h2 : z ≤ 200000) : (lI z).toInt = z := Int64.toInt_ofInt_of_le (by omega) (by omega)
theorem lI_lt {a b : Int} (ha : -200000 ≤ a ∧ a ≤ 200000) (hb : -200000 ≤ b ∧ b ≤ 200000) : lI a < lI b ↔ a < b := by
  rw [Int64.lt_iff_toInt_lt, lI_T ha.1 ha.2, lI_T hb.1 hb.2]
theorem neg_lI {n : Nat} (h : n ≤ 9) : (-nI n).toInt64 = lI (-(n : Int)) := by
  rcases (show n = 0 ∨ n = 1 ∨ n = 2 ∨ n = 3 ∨ n = 4 ∨ n = 5 ∨ n = 6 ∨ n = 7 ∨ n = 8 ∨ n = 9 by omega) with e | e | e | e | e | e | e | e | e | e <;> subst e <;> decide
def bv (t : Nat → Nat → Nat) (p : Nat → Bool) : Nat := am (fun v => (woS t p v : Int)) 40
/-- how many strips are enough: d strips left to try, n tried, p left, r right -/
def enS (t : Nat → Nat → Nat) : Nat → (Nat → Bool) → Nat → Nat → Int32
  | 0, p, n, _ => if cnS p = 1 then nI n else -9
  | d + 1, p, n, r => if cnS p ≤ 1 then (if cnS p = 1 then nI n else -9) else if cnS p ≤ woS t p (bv t p) then -9 else enS t d (prt t p (bv t p) (t (bv t p) r)) (n + 1) r
/-- what is noted for the r of p -/
def noteF (E : Nat → Int32) (p : Nat → Bool) (f : Nat → Int32) (n : Nat) : Nat → Int32 := fun j => if 1 ≤ j ∧ j ≤ n ∧ p j = true then f j else E j
/-- the tables of the kinds: laid by these settings, or never -/
def encS (ek fg st nb : Nat) : Nat := ((ek * 10 + fg) * 10 + st) * 10 + nb
def tlT (B : Nat → Nat) (sk ek : Nat) : Nat → Nat → Nat := fun v r => tl (B 0) (B 1) (B 2) sk ek v r
def Cch (T : Nat → Int64) (Lb : Nat → Nat) : Prop := ∀ kd, kd < 4 → Lb kd ≤ 5000 ∧ (Lb kd = 0 ∨ ∃ ek fg st nb, (ek ≤ 4 ∧ fg ≤ 9 ∧ st ≤ 9 ∧ nb ≤ 7) ∧ Lb kd = encS ek fg st nb ∧ Rdy T (kd * 369) (fun v r => tl nb st fg kd ek v r))
theorem tl9 {nb st fg sk ek v r : Nat} (h : nb ≤ 7) (h1 : 1 ≤ nb) : tl nb st fg sk ek v r < 9 := by
  rcases tl_b (st := st) (fg := fg) (sk := sk) (ek := ek) (v := v) (r := r) h1 with h | h <;> omega
theorem nI_neq {a b : Nat} (ha : a < 2 ^ 31) (hb : b < 2 ^ 31) (h : a ≠ b) : ¬ nI a = nI b := fun q => h ((nI_eq ha hb).mp q)
section PLS
variable {t : Nat → Nat → Nat} {W : Nat → Nat} {p : Nat → Bool} {v k fa : Nat}
theorem pa_skip (h : cnS (prt t p v k) = 0) : sz (fun z => if cnS (prt t p v z) = 0 then 0 else 1) (k + 1) = sz (fun z => if cnS (prt t p v z) = 0 then 0 else 1) k := sz_skip (f := fun z => if cnS (prt t p v z) = 0 then 0 else 1) (if_pos h)
theorem pa_step (h : cnS (prt t p v k) ≠ 0) : sz (fun z => if cnS (prt t p v z) = 0 then 0 else 1) (k + 1) = sz (fun z => if cnS (prt t p v z) = 0 then 0 else 1) k + 1 := sz_step (f := fun z => if cnS (prt t p v z) = 0 then 0 else 1) (if_neg h)
theorem wo_skip (h : cnS (prt t p v k) = 0) : mz (fun z => cnS (prt t p v z)) (k + 1) = mz (fun z => cnS (prt t p v z)) k := mz_skip (f := fun z => cnS (prt t p v z)) h
theorem wo_step : mz (fun z => cnS (prt t p v z)) (k + 1) = max (mz (fun z => cnS (prt t p v z)) k) (cnS (prt t p v k)) := mz_step (f := fun z => cnS (prt t p v z)) rfl
theorem me_skip (h : cnS (prt t p v k) = 0) : sz (fun z => wtS W (prt t p v z) * cnS (prt t p v z)) (k + 1) = sz (fun z => wtS W (prt t p v z) * cnS (prt t p v z)) k := sz_skip (f := fun z => wtS W (prt t p v z) * cnS (prt t p v z)) (by show wtS W (prt t p v k) * cnS (prt t p v k) = 0; rw [h, Nat.mul_zero])
theorem me_step : sz (fun z => wtS W (prt t p v z) * cnS (prt t p v z)) (k + 1) = sz (fun z => wtS W (prt t p v z) * cnS (prt t p v z)) k + wtS W (prt t p v k) * cnS (prt t p v k) := sz_step (f := fun z => wtS W (prt t p v z) * cnS (prt t p v z)) rfl
theorem fb_skip (h : cnS (prt t p v k) = 0) : sz (fun z => faS W (prt t p v z) (giS W (prt t p v z) fa) * fa) (k + 1) = sz (fun z => faS W (prt t p v z) (giS W (prt t p v z) fa) * fa) k := sz_skip (f := fun z => faS W (prt t p v z) (giS W (prt t p v z) fa) * fa) (by show faS W (prt t p v k) (giS W (prt t p v k) fa) * fa = 0; rw [faS_0 h, Nat.zero_mul])
theorem fb_step : sz (fun z => faS W (prt t p v z) (giS W (prt t p v z) fa) * fa) (k + 1) = sz (fun z => faS W (prt t p v z) (giS W (prt t p v z) fa) * fa) k + faS W (prt t p v k) (giS W (prt t p v k) fa) * fa := sz_step (f := fun z => faS W (prt t p v z) (giS W (prt t p v z) fa) * fa) rfl
end PLS
theorem bsI_0 (t : Nat → Nat → Nat) (W : Nat → Nat) (p : Nat → Bool) : bsI t W p 0 = bv t p := by
  unfold bsI bv; congr 1
theorem bv_in (t : Nat → Nat → Nat) (p : Nat → Bool) : 1 ≤ bv t p ∧ bv t p ≤ 40 := am_in _ 40
section NTF
variable {E : Nat → Int32} {p : Nat → Bool} {f f' : Nat → Int32} {i : Nat}
theorem note_0 : noteF E p f 0 = E := by funext j; simp only [noteF]; rw [if_neg (by omega)]
theorem note_on (hi : 1 ≤ i) (h : p i = true) {z : Int32} (hz : f i = z) : upd (noteF E p f (i - 1)) i z = noteF E p f (i + 1 - 1) := by
  funext j; simp only [upd, noteF]
  by_cases e : j = i
  · subst e; rw [if_pos rfl, if_pos ⟨hi, by omega, h⟩, hz]
  · rw [if_neg e]
    have q : (1 ≤ j ∧ j ≤ i - 1 ∧ p j = true) ↔ (1 ≤ j ∧ j ≤ i + 1 - 1 ∧ p j = true) := ⟨fun a => ⟨a.1, by omega, a.2.2⟩, fun a => ⟨a.1, by omega, a.2.2⟩⟩
    simp only [q]
theorem note_off (hi : 1 ≤ i) (h : p i = false) : noteF E p f (i - 1) = noteF E p f (i + 1 - 1) := by
  funext j; simp only [noteF]
  have q : (1 ≤ j ∧ j ≤ i - 1 ∧ p j = true) ↔ (1 ≤ j ∧ j ≤ i + 1 - 1 ∧ p j = true) := by
    constructor
    · intro a; exact ⟨a.1, by omega, a.2.2⟩
    · intro a
      refine ⟨a.1, ?_, a.2.2⟩
      by_cases e : j = i
      · rw [e] at a; rw [h] at a; exact absurd a.2.2 (by decide)
      · omega
  simp only [q]
theorem note_congr {n : Nat} (h : ∀ r, 1 ≤ r → r ≤ n → p r = true → f r = f' r) : noteF E p f n = noteF E p f' n := by
  funext j; simp only [noteF]
  by_cases q : 1 ≤ j ∧ j ≤ n ∧ p j = true
  · rw [if_pos q, if_pos q, h j q.1 q.2.1 q.2.2]
  · rw [if_neg q, if_neg q]
variable {t : Nat → Nat → Nat} {v k : Nat}
theorem plan_part (hf : ∀ r, p r = true → t v r = k → f' r = f r) : noteF (noteF E (fun r => p r && decide (t v r < k)) f 40) (prt t p v k) f' 40 = noteF E (fun r => p r && decide (t v r < k + 1)) f 40 := by
  funext j
  simp only [noteF, prt, Bool.and_eq_true, decide_eq_true_eq]
  by_cases h1 : 1 ≤ j ∧ j ≤ 40 ∧ p j = true ∧ t v j = k
  · rw [if_pos h1, if_pos ⟨h1.1, h1.2.1, h1.2.2.1, by omega⟩, hf j h1.2.2.1 h1.2.2.2]
  · rw [if_neg h1]
    by_cases h2 : 1 ≤ j ∧ j ≤ 40 ∧ p j = true ∧ t v j < k
    · rw [if_pos h2, if_pos ⟨h2.1, h2.2.1, h2.2.2.1, by omega⟩]
    · rw [if_neg h2, if_neg]
      intro h3
      by_cases h4 : t v j = k
      · exact h1 ⟨h3.1, h3.2.1, h3.2.2.1, h4⟩
      · exact h2 ⟨h3.1, h3.2.1, h3.2.2.1, by omega⟩
theorem plan_none (h : cnS (prt t p v k) = 0) : noteF E (fun r => p r && decide (t v r < k)) f 40 = noteF E (fun r => p r && decide (t v r < k + 1)) f 40 := by
  funext j
  simp only [noteF, Bool.and_eq_true, decide_eq_true_eq]
  by_cases h2 : 1 ≤ j ∧ j ≤ 40 ∧ p j = true ∧ t v j < k
  · rw [if_pos h2, if_pos ⟨h2.1, h2.2.1, h2.2.2.1, by omega⟩]
  · rw [if_neg h2, if_neg]
    intro h3
    by_cases h4 : t v j = k
    · have h5 := cnS_0 h j h3.1 h3.2.1
      simp only [prt, h3.2.2.1, h4] at h5
      exact absurd h5 (by decide)
    · exact h2 ⟨h3.1, h3.2.1, h3.2.2.1, by omega⟩
theorem plan_0 : noteF E (fun r => p r && decide (t v r < 0)) f 40 = E := by
  funext j
  simp only [noteF, Bool.and_eq_true, decide_eq_true_eq]
  rw [if_neg (fun h => by omega)]
theorem plan_9 {d n : Nat} (h9 : ∀ v r, t v r < 9) (h1 : ¬ cnS p ≤ 1) (h2 : ¬ cnS p ≤ woS t p (bv t p)) : noteF E (fun r => p r && decide (t (bv t p) r < 9)) (fun r => enS t d (prt t p (bv t p) (t (bv t p) r)) (n + 1) r) 40 = noteF E p (enS t (d + 1) p n) 40 := by
  funext j
  simp only [noteF, Bool.and_eq_true, decide_eq_true_eq]
  by_cases h : 1 ≤ j ∧ j ≤ 40 ∧ p j = true
  · rw [if_pos ⟨h.1, h.2.1, h.2.2, h9 _ _⟩, if_pos h]
    show _ = if cnS p ≤ 1 then _ else if cnS p ≤ woS t p (bv t p) then _ else enS t d (prt t p (bv t p) (t (bv t p) j)) (n + 1) j
    rw [if_neg h1, if_neg h2]
  · rw [if_neg h, if_neg (fun q => h ⟨q.1, q.2.1, q.2.2.1⟩)]
end NTF
theorem enS_z {t : Nat → Nat → Nat} {p : Nat → Bool} {n r : Nat} : ∀ d, cnS p ≤ 1 ∨ d = 0 → enS t d p n r = if cnS p = 1 then nI n else -9
  | 0, _ => rfl
  | d + 1, h => by
    have h1 : cnS p ≤ 1 := by omega
    show (if cnS p ≤ 1 then _ else _) = _
    rw [if_pos h1]
theorem enS_stuck {t : Nat → Nat → Nat} {p : Nat → Bool} {n r d : Nat} (h1 : ¬ cnS p ≤ 1) (h2 : cnS p ≤ woS t p (bv t p)) : enS t (d + 1) p n r = -9 := by
  show (if cnS p ≤ 1 then _ else if cnS p ≤ woS t p (bv t p) then _ else _) = _
  rw [if_neg h1, if_pos h2]
