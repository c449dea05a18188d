/-! ===== the ROW as strips tried in mind: what stays, and the first two that can not be ===== -/
def rwS (t : Nat → Nat → Nat) (rw_ : Nat → Nat) (rn : Nat) : Nat → Nat → (Nat → Bool) → (Nat → Bool) × Int32
  | 0, _, p => (p, -9)
  | d + 1, i, p => if i < rn then (if (i + 1 < rn ∧ 1 ≤ rw_ i ∧ rw_ i ≤ 40) ∧ cnS (prt t p (rw_ i) (rw_ (i + 1))) ≠ 0 then rwS t rw_ rn d (i + 2) (prt t p (rw_ i) (rw_ (i + 1))) else (p, nI (i / 2))) else (p, -9)
section RWS2
variable {t : Nat → Nat → Nat} {rw_ : Nat → Nat} {rn i : Nat} {p : Nat → Bool}
theorem rw_go (h2 : i % 2 = 0) (hi : i ≤ 12) (hlt : i < rn) (hg : (i + 1 < rn ∧ 1 ≤ rw_ i ∧ rw_ i ≤ 40) ∧ cnS (prt t p (rw_ i) (rw_ (i + 1))) ≠ 0) : rwS t rw_ rn (7 - i / 2) i p = rwS t rw_ rn (7 - (i + 2) / 2) (i + 2) (prt t p (rw_ i) (rw_ (i + 1))) := by
  rw [show 7 - i / 2 = (7 - (i + 2) / 2) + 1 by omega]
  show (if i < rn then _ else _) = _
  rw [if_pos hlt, if_pos hg]
theorem rw_bad (hi : i ≤ 12) (hlt : i < rn) (hg : ¬ ((i + 1 < rn ∧ 1 ≤ rw_ i ∧ rw_ i ≤ 40) ∧ cnS (prt t p (rw_ i) (rw_ (i + 1))) ≠ 0)) : rwS t rw_ rn (7 - i / 2) i p = (p, nI (i / 2)) := by
  rw [show 7 - i / 2 = (6 - i / 2) + 1 by omega]
  show (if i < rn then _ else _) = _
  rw [if_pos hlt, if_neg hg]
theorem rw_end (hi : i ≤ 13) (hge : rn ≤ i) : rwS t rw_ rn (7 - i / 2) i p = (p, -9) := by
  rw [show 7 - i / 2 = (6 - i / 2) + 1 by omega]
  show (if i < rn then _ else _) = _
  rw [if_neg (by omega)]
end RWS2
theorem bitL_at {W B : Nat → Nat} {sk ek v k : Nat} {x : Int64} (h : ∀ r, bitL x r = true → lpB W r = true) : bitL (x &&& toldM W B sk ek v k) = prt (tlT B sk ek) (bitL x) v k := by
  funext r
  rw [bitL_and, bitL_told]
  simp only [prt]
  cases hx : bitL x r with
  | false => rfl
  | true => rw [h r hx]; rfl
theorem sub_inS {W : Nat → Nat} {x : Int64} (h : ∀ r, bitL x r = true → lpB W r = true) : inS x := fun r hr => by
  have := h r hr
  simp only [lpB, Bool.and_eq_true, decide_eq_true_eq] at this
  exact this.1
theorem sub_0 (W : Nat → Nat) : ∀ r, bitL (lfM W) r = true → lpB W r = true := fun r h => by rw [bitL_lfM] at h; exact h
section LBT
variable {W B rw_ : Nat → Nat} {sk ek rn i : Nat} {x : Int64}
theorem lb_go (h : ∀ r, bitL x r = true → lpB W r = true) (hn : ¬ lbT W B sk ek rw_ rn i x = lN 0) : ((i + 1 < rn ∧ 1 ≤ rw_ i ∧ rw_ i ≤ 40) ∧ cnS (prt (tlT B sk ek) (bitL x) (rw_ i) (rw_ (i + 1))) ≠ 0) ∧ bitL (lbT W B sk ek rw_ rn i x) = prt (tlT B sk ek) (bitL x) (rw_ i) (rw_ (i + 1)) := by
  unfold lbT at hn ⊢
  by_cases c : i + 1 < rn ∧ 1 ≤ rw_ i ∧ rw_ i ≤ 40
  · rw [if_pos c] at hn ⊢
    rw [bitL_at h]
    refine ⟨⟨c, fun z => hn ?_⟩, rfl⟩
    rw [zero_cn (inS_and (inS_told W B sk ek (rw_ i) (rw_ (i + 1)))), bitL_at h]
    exact z
  · rw [if_neg c] at hn; exact absurd rfl hn
theorem lb_bad (h : ∀ r, bitL x r = true → lpB W r = true) (hz : lbT W B sk ek rw_ rn i x = lN 0) : ¬ ((i + 1 < rn ∧ 1 ≤ rw_ i ∧ rw_ i ≤ 40) ∧ cnS (prt (tlT B sk ek) (bitL x) (rw_ i) (rw_ (i + 1))) ≠ 0) := by
  intro hg
  unfold lbT at hz
  rw [if_pos hg.1, zero_cn (inS_and (inS_told W B sk ek (rw_ i) (rw_ (i + 1)))), bitL_at h] at hz
  exact hg.2 hz
theorem lb_sub (h : ∀ r, bitL x r = true → lpB W r = true) (hn : ¬ lbT W B sk ek rw_ rn i x = lN 0) : ∀ r, bitL (lbT W B sk ek rw_ rn i x) r = true → lpB W r = true := fun r hr => by
  rw [(lb_go h hn).2] at hr
  exact h r (prt_sub r hr)
end LBT
theorem nb0 {S : Nat → Nat} {p : Nat → Bool} {v k : Nat} (h1 : 1 ≤ S 41) (h : k ≠ 8 ∧ S 41 ≤ k) : cnS (prt (tlS S) p v k) = 0 :=
  (sg_congr (f' := fun _ => 0) 40 (fun r _ _ => by
    have e : ¬ tlS S v r = k := fun q => by
      have := tl_b (st := S 42) (fg := S 43) (sk := S 46) (ek := S 47) (v := v) (r := r) h1
      unfold tlS at q; omega
    rw [if_neg]; simp [prt, e])).trans rfl
