/-! ===== the reference's state: one row of 49 ===== -/
def okS (S : Nat → Nat) : Prop := (∀ j, j ≤ 40 → S j ≤ 9) ∧ (2 ≤ S 41 ∧ S 41 ≤ 7) ∧ (1 ≤ S 42 ∧ S 42 ≤ 9) ∧ S 43 ≤ 9 ∧ S 44 ≤ 99 ∧ S 45 ≤ 99 ∧ S 46 ≤ 3 ∧ S 47 ≤ 4 ∧ S 48 ≤ 99
def tlS (S : Nat → Nat) : Nat → Nat → Nat := fun v r => tl (S 41) (S 42) (S 43) (S 46) (S 47) v r
theorem tlS_9 {S : Nat → Nat} (h : okS S) (v r : Nat) : tlS S v r < 9 := tl9 h.2.1.2 (by have := h.2.1.1; omega)
def lpB (W : Nat → Nat) : Nat → Bool := fun r => decide (1 ≤ r ∧ r ≤ 40) && decide (W r ≠ 0)
theorem bitL_lfM (W : Nat → Nat) : bitL (lfM W) = lpB W := funext fun r => bitL_lf W r
theorem nI_neg9 {b : Nat} (h : b < 2 ^ 31) : ¬ nI b = -9 := fun q => by
  have h1 := congrArg Int32.toInt q
  rw [nI_toInt h, show ((-9 : Int32)).toInt = -9 from rfl] at h1
  omega
def ofF (O : Nat → Int32) (L : Nat → Nat) (t : Nat → Nat → Nat) (v n : Nat) : Nat → Int32 := fun j => if 1 ≤ j ∧ j ≤ n then (if L j = 0 then -9 else nI (t v j)) else O j
def cnN (L : Nat → Nat) (t : Nat → Nat → Nat) (v n k : Nat) : Nat := sg (fun r => if L r ≠ 0 ∧ t v r = k then 1 else 0) n
def weN (L : Nat → Nat) (t : Nat → Nat → Nat) (v n k : Nat) : Nat := sg (fun r => if L r ≠ 0 ∧ t v r = k then L r else 0) n
section PTN
variable {O : Nat → Int32} {L : Nat → Nat} {t : Nat → Nat → Nat} {v i : Nat}
theorem ofF_0 : ofF O L t v 0 = O := by funext j; simp only [ofF]; rw [if_neg (by omega)]
theorem ofF_step {z : Int32} (hi : 1 ≤ i) (hz : z = if L i = 0 then -9 else nI (t v i)) : upd (ofF O L t v (i - 1)) i z = ofF O L t v (i + 1 - 1) := by
  funext j; simp only [upd, ofF]
  by_cases e : j = i
  · subst e; rw [if_pos rfl, if_pos (by omega), hz]
  · rw [if_neg e]
    by_cases h : 1 ≤ j ∧ j ≤ i - 1
    · rw [if_pos h, if_pos (show 1 ≤ j ∧ j ≤ i + 1 - 1 by omega)]
    · rw [if_neg h, if_neg (show ¬ (1 ≤ j ∧ j ≤ i + 1 - 1) by omega)]
theorem upd_upd (f : Nat → Int32) (k : Nat) (a b : Int32) : upd (upd f k a) k b = upd f k b := by
  funext j; simp only [upd]; split <;> rfl
theorem upd_at (f : Nat → Int32) (k : Nat) (a : Int32) : upd f k a k = a := by simp [upd]
theorem cnN_skip (hi : 1 ≤ i) (h : L i = 0) : cnN L t v (i - 1) = cnN L t v (i + 1 - 1) := by
  funext k; unfold cnN; exact (sg_skip hi (if_neg (fun q => q.1 h))).symm
theorem weN_skip (hi : 1 ≤ i) (h : L i = 0) : weN L t v (i - 1) = weN L t v (i + 1 - 1) := by
  funext k; unfold weN; exact (sg_skip hi (if_neg (fun q => q.1 h))).symm
theorem cnN_step (hi : 1 ≤ i) (h : L i ≠ 0) : updN (cnN L t v (i - 1)) (t v i) (cnN L t v (i - 1) (t v i) + 1) = cnN L t v (i + 1 - 1) := by
  funext k; simp only [updN]; unfold cnN
  by_cases e : k = t v i
  · rw [if_pos e, e]; exact (sg_step (f := fun r => if L r ≠ 0 ∧ t v r = t v i then 1 else 0) hi (if_pos ⟨h, rfl⟩)).symm
  · rw [if_neg e]; exact (sg_skip hi (if_neg (fun q => e q.2.symm))).symm
theorem weN_step (hi : 1 ≤ i) (h : L i ≠ 0) : updN (weN L t v (i - 1)) (t v i) (weN L t v (i - 1) (t v i) + L i) = weN L t v (i + 1 - 1) := by
  funext k; simp only [updN]; unfold weN
  by_cases e : k = t v i
  · rw [if_pos e, e]; exact (sg_step (f := fun r => if L r ≠ 0 ∧ t v r = t v i then L r else 0) hi (if_pos ⟨h, rfl⟩)).symm
  · rw [if_neg e]; exact (sg_skip hi (if_neg (fun q => e q.2.symm))).symm
theorem cnN_40 : cnN L t v 40 = fun k => cnS (prt t (lpB L) v k) := by
  funext k; unfold cnN cnS
  refine sg_congr 40 (fun r h1 h2 => ?_)
  simp only [prt, lpB, Bool.and_eq_true, decide_eq_true_eq]
  by_cases h : L r ≠ 0 ∧ t v r = k
  · rw [if_pos h, if_pos ⟨⟨⟨h1, h2⟩, h.1⟩, h.2⟩]
  · rw [if_neg h, if_neg (fun q => h ⟨q.1.2, q.2⟩)]
theorem weN_40 : weN L t v 40 = fun k => wtS L (prt t (lpB L) v k) := by
  funext k; unfold weN wtS
  refine sg_congr 40 (fun r h1 h2 => ?_)
  simp only [prt, lpB, Bool.and_eq_true, decide_eq_true_eq]
  by_cases h : L r ≠ 0 ∧ t v r = k
  · rw [if_pos h, if_pos ⟨⟨⟨h1, h2⟩, h.1⟩, h.2⟩]
  · rw [if_neg h, if_neg (fun q => h ⟨q.1.2, q.2⟩)]
theorem cnN_0 : (fun _ : Nat => 0) = cnN L t v 0 := rfl
theorem weN_0 : (fun _ : Nat => 0) = weN L t v 0 := rfl
end PTN
theorem cnS_lp (W : Nat → Nat) : cnS (lpB W) = sg (fun r => if W r = 0 then 0 else 1) 40 := sg_congr 40 (fun r h1 h2 => by
  simp only [lpB, Bool.and_eq_true, decide_eq_true_eq]
  by_cases h : W r = 0
  · rw [if_pos h, if_neg (fun q => q.2 h)]
  · rw [if_neg h, if_pos ⟨⟨h1, h2⟩, h⟩])
theorem wtS_lp (W : Nat → Nat) : wtS W (lpB W) = sg W 40 := by rw [← bitL_lfM]; exact wt_left W
/-- an entry refused, counted -/
def bump (rf : Nat → Int32) (k : Nat) : Nat → Int32 := if k = 0 then rf else upd rf k (rf k + nI 1)
def rsp (k : Nat) (v : Int32) : Int32 := if k = 0 then v else -nI k
def rspL (k : Nat) (v : Int64) : Int64 := if k = 0 then v else 4000000000000000000 - (-nI k).toInt64
theorem tlS_4 {S : Nat → Nat} {v r : Nat} (h : S 47 = 4) : tlS S v r = if S 43 < dst (secN (S 46) (S 41) (S 42) v (nearQ (secN (S 46) (S 41) (S 42) v) r (decide (1 = 1)) (S 41 - 1))) r then 8 else nearQ (secN (S 46) (S 41) (S 42) v) r (decide (1 = 1)) (S 41 - 1) := by
  unfold tlS tl tellQ; rw [h]; simp [soN, slN]
