/-! ===== sets of seconds as the bits of a long ===== -/
def bitL (x : Int64) (r : Nat) : Bool := x.toBitVec.getLsbD r
theorem sh_c : ∀ k, k < 64 → ((nI k).toInt64 &&& 63).toBitVec.smod 64 = BitVec.ofNat 64 k := by decide +kernel
theorem bitL_and (x y : Int64) (r : Nat) : bitL (x &&& y) r = (bitL x r && bitL y r) := by
  unfold bitL; rw [Int64.toBitVec_and, BitVec.getLsbD_and]
theorem bitL_or (x y : Int64) (r : Nat) : bitL (x ||| y) r = (bitL x r || bitL y r) := by
  unfold bitL; rw [Int64.toBitVec_or, BitVec.getLsbD_or]
theorem bitL_0 (r : Nat) : bitL (lN 0) r = false := by
  unfold bitL; rw [show (lN 0).toBitVec = 0#64 from rfl]; simp
def bt1 (r : Nat) : Int64 := lN 1 <<< ((nI r).toInt64 &&& 63)
theorem ofNat_toNat64 {k : Nat} (h : k < 64) : (BitVec.ofNat 64 k).toNat = k := by rw [BitVec.toNat_ofNat]; omega
theorem bitL_bt1 {r : Nat} (hr : r < 64) (i : Nat) : bitL (bt1 r) i = decide (i = r) := by
  unfold bitL bt1
  rw [Int64.toBitVec_shiftLeft, sh_c r hr, show (lN 1).toBitVec = 1#64 from rfl]
  rw [BitVec.shiftLeft_eq', ofNat_toNat64 hr, BitVec.getLsbD_shiftLeft]
  by_cases h1 : i = r
  · subst h1; simp [hr]
  · by_cases h2 : i < r
    · simp [h1, h2]
    · by_cases h3 : i < 64
      · have : i - r ≠ 0 := by omega
        simp [h1, h2, h3, this, BitVec.getLsbD_one]
      · simp [h1, h3]
theorem holdsL {x : Int64} {r : Nat} (hr : r < 64) : (x >>> ((nI r).toInt64 &&& 63)) &&& lN 1 = lN 0 ↔ bitL x r = false := by
  have hb : ((x >>> ((nI r).toInt64 &&& 63)) &&& lN 1).toBitVec = (x.toBitVec.sshiftRight r) &&& 1#64 := by
    rw [Int64.toBitVec_and, Int64.toBitVec_shiftRight, sh_c r hr, show (lN 1).toBitVec = 1#64 from rfl]
    rw [BitVec.sshiftRight_eq', ofNat_toNat64 hr]
  have h0 : (x.toBitVec.sshiftRight r).getLsbD 0 = x.toBitVec.getLsbD r := by
    rw [BitVec.getLsbD_sshiftRight]; simp [hr]
  constructor
  · intro h
    have h2 := congrArg (fun z => z.toBitVec.getLsbD 0) h
    simp only [hb, BitVec.getLsbD_and, h0, show (lN 0).toBitVec = 0#64 from rfl] at h2
    unfold bitL
    simpa using h2
  · intro h
    apply Int64.toBitVec_inj.mp
    rw [hb, show (lN 0).toBitVec = 0#64 from rfl]
    apply BitVec.eq_of_getLsbD_eq
    intro i hi
    rw [BitVec.getLsbD_and]
    by_cases hz : i = 0
    · subst hz; rw [h0]; unfold bitL at h; rw [h]; simp
    · rw [BitVec.getLsbD_one]; simp [hz]
/-- the set of the r of 1 .. n with p r -/
def mskP (p : Nat → Bool) : Nat → Int64
  | 0 => lN 0
  | n + 1 => if p (n + 1) = true then mskP p n ||| bt1 (n + 1) else mskP p n
theorem bitL_msk (p : Nat → Bool) (r : Nat) : ∀ n, n < 64 → bitL (mskP p n) r = (decide (1 ≤ r ∧ r ≤ n) && p r)
  | 0, _ => by
    have h0 : ¬ (1 ≤ r ∧ r ≤ 0) := by omega
    rw [decide_eq_false h0]; exact bitL_0 r
  | n + 1, h => by
    have ih := bitL_msk p r n (by omega)
    simp only [mskP]
    by_cases hp : p (n + 1) = true
    · rw [if_pos hp, bitL_or, ih, bitL_bt1 h]
      by_cases hr : r = n + 1
      · subst hr; simp [hp]
      · have e : (1 ≤ r ∧ r ≤ n + 1) ↔ (1 ≤ r ∧ r ≤ n) := by omega
        simp [hr, e]
    · rw [if_neg hp, ih]
      by_cases hr : r = n + 1
      · subst hr; simp [hp]
      · have e : (1 ≤ r ∧ r ≤ n + 1) ↔ (1 ≤ r ∧ r ≤ n) := by omega
        simp [e]
theorem bitL_ext {x y : Int64} (h : ∀ r, r < 64 → bitL x r = bitL y r) : x = y := by
  apply Int64.toBitVec_inj.mp
  apply BitVec.eq_of_getLsbD_eq
  intro i hi
  exact h i hi
/-- a sum over 1 .. n -/
def sg (f : Nat → Nat) : Nat → Nat
  | 0 => 0
  | n + 1 => sg f n + f (n + 1)
theorem sg_congr {f f' : Nat → Nat} : ∀ n, (∀ r, 1 ≤ r → r ≤ n → f r = f' r) → sg f n = sg f' n
  | 0, _ => rfl
  | n + 1, h => by simp only [sg]; rw [sg_congr n (fun r h1 h2 => h r h1 (by omega)), h (n + 1) (by omega) (Nat.le_refl _)]
theorem sg_le {f : Nat → Nat} {M : Nat} : ∀ n, (∀ r, 1 ≤ r → r ≤ n → f r ≤ M) → sg f n ≤ n * M
  | 0, _ => by simp [sg]
  | n + 1, h => by
    have ih := sg_le n (fun r h1 h2 => h r h1 (by omega))
    have h1 := h (n + 1) (by omega) (Nat.le_refl _)
    simp only [sg]; rw [Nat.succ_mul]; omega
/-- the first of 1 .. n with the least f -/
def am (f : Nat → Int) : Nat → Nat
  | 0 => 1
  | n + 1 => if f (n + 1) < f (am f n) then n + 1 else am f n
theorem am_1 (f : Nat → Int) : am f 1 = 1 := by simp [am]
theorem am_in (f : Nat → Int) : ∀ n, 1 ≤ am f n ∧ am f n ≤ max 1 n
  | 0 => by simp [am]
  | n + 1 => by
    have ih := am_in f n
    simp only [am]; split <;> omega
theorem am_congr {f f' : Nat → Int} : ∀ n, (∀ r, 1 ≤ r → r ≤ n → f r = f' r) → am f n = am f' n
  | 0, _ => rfl
  | n + 1, h => by
    have ih := am_congr n (fun r h1 h2 => h r h1 (by omega))
    have hi := am_in f' n
    simp only [am]
    rw [ih]
    rcases Nat.eq_zero_or_pos n with hz | hz
    · subst hz; simp [am]
    · rw [h (n + 1) (by omega) (Nat.le_refl _), h (am f' n) hi.1 (by omega)]
/-- weight, faults, the sheet of a set -/
def wtS (W : Nat → Nat) (p : Nat → Bool) : Nat := sg (fun r => if p r = true then W r else 0) 40
def faS (W : Nat → Nat) (p : Nat → Bool) (v : Nat) : Nat := sg (fun r => if p r = true then W r * dst v r else 0) 40
def giS (W : Nat → Nat) (p : Nat → Bool) (fa : Nat) : Nat := am (fun v => ((faS W p v * fa : Nat) : Int)) 40
def cutN (W : Nat → Nat) (p : Nat → Bool) (n : Nat) : Nat → Nat := fun j => if 1 ≤ j ∧ j ≤ n ∧ p j = false then 0 else W j
theorem cutN_0 (W : Nat → Nat) (p : Nat → Bool) : cutN W p 0 = W := by funext j; simp only [cutN]; rw [if_neg (by omega)]
theorem cutN_stay {W : Nat → Nat} {p : Nat → Bool} {n : Nat} (h : p (n + 1) = true) : cutN W p (n + 1) = cutN W p n := by
  funext j; simp only [cutN]
  by_cases hj : j = n + 1
  · subst hj; rw [if_neg (by rw [h]; simp), if_neg (by omega)]
  · have e : (1 ≤ j ∧ j ≤ n + 1 ∧ p j = false) ↔ (1 ≤ j ∧ j ≤ n ∧ p j = false) := ⟨fun h => ⟨h.1, by omega, h.2.2⟩, fun h => ⟨h.1, by omega, h.2.2⟩⟩
    simp only [e]
theorem cutN_zero {W : Nat → Nat} {p : Nat → Bool} {n : Nat} (h : p (n + 1) = false) : updN (cutN W p n) (n + 1) 0 = cutN W p (n + 1) := by
  funext j; simp only [cutN, updN]
  by_cases hj : j = n + 1
  · subst hj; rw [if_pos rfl, if_pos ⟨by omega, by omega, h⟩]
  · have e : (1 ≤ j ∧ j ≤ n + 1 ∧ p j = false) ↔ (1 ≤ j ∧ j ≤ n ∧ p j = false) := ⟨fun h => ⟨h.1, by omega, h.2.2⟩, fun h => ⟨h.1, by omega, h.2.2⟩⟩
    rw [if_neg hj]; simp only [e]
theorem tellQ_congr {q q' : Nat → Nat} {nb ek fg r : Nat} (hn : 1 ≤ nb) (h : ∀ j, j < nb → q j = q' j) : tellQ q nb ek fg r = tellQ q' nb ek fg r := by
  have hn1 : ∀ x sl n, n < nb → nearQ q x sl n = nearQ q' x sl n := by
    intro x sl n
    induction n with
    | zero => intro _; rfl
    | succ n ih =>
      intro hlt
      have i1 := ih (by omega)
      have i2 := nearQ_le q' x sl n
      have e : btr q x sl (n + 1) (nearQ q' x sl n) = btr q' x sl (n + 1) (nearQ q' x sl n) := by
        simp only [btr, h (n + 1) hlt, h (nearQ q' x sl n) (by omega)]
      simp only [nearQ, i1, e]
  unfold tellQ
  rw [hn1 _ _ _ (by omega), h _ (by have := nearQ_le q' (soN ek fg r) (slN ek) (nb - 1); omega)]
theorem tell_lay {sk nb st v : Nat} {q : Nat → Nat} {ek fg r : Nat} (hn : 1 ≤ nb) : tellQ (layQ sk nb st v q nb) nb ek fg r = tl nb st fg sk ek v r := tellQ_congr hn (fun j hj => by simp [layQ, hj])
theorem layQ_b {sk nb st v : Nat} {q : Nat → Nat} : ∀ j, j < nb → layQ sk nb st v q nb j ≤ 240 := fun j hj => by simp only [layQ, if_pos hj]; exact secN_le _ _ _ _ _
theorem tl_b {nb st fg sk ek v r : Nat} (hn : 1 ≤ nb) : tl nb st fg sk ek v r < nb ∨ tl nb st fg sk ek v r = 8 := by
  have := nearQ_le (secN sk nb st v) (soN ek fg r) (slN ek) (nb - 1)
  unfold tl tellQ; split
  · exact Or.inr rfl
  · left; omega
/-- a row told otherwise, the same below its length -/
theorem recN {g : EE} {A : Nat → Prop} {ws : va_W} {H : Heap} (hP : va_P (eD g) vwCl ws H) (hD : va_D A ws) (q0 : Nat) {a n : Nat} {cA : ClassId} {f f' : Nat → Int32} (ha : ws[q0]? = some (a, .inl (cA, n, .inl f))) (h : ∀ j, j < n → f j = f' j) : va_P (eD g) vwCl (ws.set q0 (a, .inl (cA, n, .inl f'))) H ∧ va_D A (ws.set q0 (a, .inl (cA, n, .inl f'))) := by
  refine ⟨hP.set hD ha ?_ (fun q _ => rfl), hD.set ha⟩
  have h1 : H[a]? = some (vp_cell cA (n, .inl f)) := hP q0 _ ha
  show H[a]? = some (vp_cell cA (n, .inl f'))
  rw [h1]
  congr 1
  rw [vp_cell_i, vp_cell_i]
  unfold arrV
  congr 1
  apply Array.ext
  · simp
  · intro i h2 h3
    simp at h2
    simp [h i h2]
def lfM (W : Nat → Nat) : Int64 := mskP (fun r => decide (W r ≠ 0)) 40
def toldM (W B : Nat → Nat) (sk ek v k : Nat) : Int64 := mskP (fun r => decide (W r ≠ 0) && decide (tl (B 0) (B 1) (B 2) sk ek v r = k)) 40
def okB (B : Nat → Nat) : Prop := (2 ≤ B 0 ∧ B 0 ≤ 7) ∧ (1 ≤ B 1 ∧ B 1 ≤ 9) ∧ B 2 ≤ 9 ∧ B 3 ≤ 99 ∧ B 4 ≤ 99
theorem okB_b {B : Nat → Nat} (h : okB B) : (2 ≤ B 0 ∧ B 0 ≤ 7) ∧ 1 ≤ B 1 ∧ B 1 ≤ 9 ∧ B 2 ≤ 9 ∧ B 3 ≤ 99 ∧ B 4 ≤ 99 := ⟨h.1, h.2.1.1, h.2.1.2, h.2.2.1, h.2.2.2.1, h.2.2.2.2⟩
theorem mskP_on {p : Nat → Bool} {i : Nat} (hi : 1 ≤ i) (h : p i = true) : mskP p (i + 1 - 1) = mskP p (i - 1) ||| (lN 1 <<< ((nI i).toInt64 &&& 63)) := by
  obtain ⟨k, rfl⟩ : ∃ k, i = k + 1 := ⟨i - 1, by omega⟩
  rw [show k + 1 + 1 - 1 = k + 1 by omega, show k + 1 - 1 = k by omega]
  simp only [mskP]; rw [if_pos h]; rfl
theorem mskP_off {p : Nat → Bool} {i : Nat} (hi : 1 ≤ i) (h : p i = false) : mskP p (i + 1 - 1) = mskP p (i - 1) := by
  obtain ⟨k, rfl⟩ : ∃ k, i = k + 1 := ⟨i - 1, by omega⟩
  rw [show k + 1 + 1 - 1 = k + 1 by omega, show k + 1 - 1 = k by omega]
  simp only [mskP]; rw [if_neg (by rw [h]; decide)]
theorem sg_step {f : Nat → Nat} {i z : Nat} (hi : 1 ≤ i) (h : f i = z) : sg f (i + 1 - 1) = sg f (i - 1) + z := by
  obtain ⟨k, rfl⟩ : ∃ k, i = k + 1 := ⟨i - 1, by omega⟩
  rw [show k + 1 + 1 - 1 = k + 1 by omega, show k + 1 - 1 = k by omega]
  simp only [sg]; rw [h]
theorem cut_zero1 {W : Nat → Nat} {p : Nat → Bool} {i : Nat} (hi : 1 ≤ i) (h : p i = false) : updN (cutN W p (i - 1)) i 0 = cutN W p (i + 1 - 1) := by
  obtain ⟨k, rfl⟩ : ∃ k, i = k + 1 := ⟨i - 1, by omega⟩
  exact cutN_zero h
theorem cut_stay1 {W : Nat → Nat} {p : Nat → Bool} {i : Nat} (hi : 1 ≤ i) (h : p i = true) : cutN W p (i - 1) = cutN W p (i + 1 - 1) := by
  obtain ⟨k, rfl⟩ : ∃ k, i = k + 1 := ⟨i - 1, by omega⟩
  exact (cutN_stay h).symm
theorem am_new {f : Nat → Int} {i b : Nat} (hi : 1 ≤ i) (hb : b = am f (i - 1)) (h : f i < f b) : i = am f (i + 1 - 1) := by
  obtain ⟨k, rfl⟩ : ∃ k, i = k + 1 := ⟨i - 1, by omega⟩
  rw [show k + 1 + 1 - 1 = k + 1 by omega]
  rw [show k + 1 - 1 = k by omega] at hb
  simp only [am]; rw [← hb, if_pos h]
theorem am_old {f : Nat → Int} {i b : Nat} (hi : 1 ≤ i) (hb : b = am f (i - 1)) (h : f b ≤ f i) : b = am f (i + 1 - 1) := by
  obtain ⟨k, rfl⟩ : ∃ k, i = k + 1 := ⟨i - 1, by omega⟩
  rw [show k + 1 + 1 - 1 = k + 1 by omega]
  rw [show k + 1 - 1 = k by omega] at hb
  simp only [am]; rw [← hb, if_neg (by omega)]
theorem faS_le {W : Nat → Nat} {p : Nat → Bool} {v : Nat} (hW : ∀ j, W j ≤ 9) (hv : v ≤ 40) : faS W p v ≤ 14400 := by
  have h := sg_le (f := fun r => if p r = true then W r * dst v r else 0) (M := 9 * 40) 40 (fun r h1 h2 => by
    show (if p r = true then W r * dst v r else 0) ≤ _
    split
    · exact mul_le_c (hW r) (dst_le hv h2)
    · omega)
  unfold faS; omega
theorem faS_b {W : Nat → Nat} {p : Nat → Bool} {v fa : Nat} (hW : ∀ j, W j ≤ 9) (hv : v ≤ 40) (hf : fa ≤ 99) : faS W p v * fa ≤ 1425600 := mul_le_c (faS_le hW hv) hf
theorem giS_in (W : Nat → Nat) (p : Nat → Bool) (fa : Nat) : 1 ≤ giS W p fa ∧ giS W p fa ≤ 40 := am_in _ 40
theorem sg_skip {f : Nat → Nat} {i : Nat} (hi : 1 ≤ i) (h : f i = 0) : sg f (i + 1 - 1) = sg f (i - 1) := by rw [sg_step hi h]; rfl
