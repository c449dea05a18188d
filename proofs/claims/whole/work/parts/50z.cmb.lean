/-! ===== the class's state as the reference's row ===== -/
def cmb (W B : Nat → Nat) (sk ek tr : Nat) : Nat → Nat := fun j => if j ≤ 40 then W j else if j ≤ 45 then B (j - 41) else if j = 46 then sk else if j = 47 then ek else if j = 48 then tr else 0
section CMB
variable {W B : Nat → Nat} {sk ek tr : Nat}
theorem cmb_le {j : Nat} (h : j ≤ 40) : cmb W B sk ek tr j = W j := if_pos h
theorem lpB_cmb : lpB (cmb W B sk ek tr) = lpB W := by
  funext r
  by_cases h : 1 ≤ r ∧ r ≤ 40
  · have e : cmb W B sk ek tr r = W r := cmb_le h.2
    simp only [lpB, e]
  · simp only [lpB]; rw [decide_eq_false h]; rfl
theorem tlS_cmb : tlS (cmb W B sk ek tr) = tlT B sk ek := by
  funext v r; simp [tlS, tlT, cmb]
theorem cmb_41 : cmb W B sk ek tr 41 = B 0 := rfl
theorem cmb_44 : cmb W B sk ek tr 44 = B 3 := rfl
theorem cmb_45 : cmb W B sk ek tr 45 = B 4 := rfl
theorem cmb_46 : cmb W B sk ek tr 46 = sk := rfl
theorem cmb_47 : cmb W B sk ek tr 47 = ek := rfl
theorem cmb_48 : cmb W B sk ek tr 48 = tr := rfl
theorem upd_W {k v : Nat} (h : k ≤ 40) : updN (cmb W B sk ek tr) k v = cmb (updN W k v) B sk ek tr := by
  funext j; simp only [updN, cmb]
  by_cases e : j = k
  · subst e; rw [if_pos rfl, if_pos h, if_pos rfl]
  · rw [if_neg e]
    by_cases h2 : j ≤ 40
    · rw [if_pos h2, if_pos h2, if_neg e]
    · rw [if_neg h2, if_neg h2]
theorem upd_B {k i v : Nat} (h : i < 5) (hk : k = 41 + i) : updN (cmb W B sk ek tr) k v = cmb W (updN B i v) sk ek tr := by
  subst hk
  funext j; simp only [updN, cmb]
  by_cases e : j = 41 + i
  · subst e; rw [if_pos rfl, if_neg (by omega), if_pos (by omega), if_pos (by omega)]
  · rw [if_neg e]
    by_cases h2 : j ≤ 40
    · rw [if_pos h2, if_pos h2]
    · rw [if_neg h2, if_neg h2]
      by_cases h3 : j ≤ 45
      · rw [if_pos h3, if_pos h3, if_neg (by omega)]
      · rw [if_neg h3, if_neg h3]
theorem upd_46 {v : Nat} : updN (cmb W B sk ek tr) 46 v = cmb W B v ek tr := by
  funext j; simp only [updN, cmb]
  by_cases e : j = 46
  · subst e; rfl
  · rw [if_neg e, if_neg e, if_neg e]
theorem upd_47 {v : Nat} : updN (cmb W B sk ek tr) 47 v = cmb W B sk v tr := by
  funext j; simp only [updN, cmb]
  by_cases e : j = 47
  · subst e; rfl
  · rw [if_neg e, if_neg e, if_neg e]
theorem upd_48 {v : Nat} : updN (cmb W B sk ek tr) 48 v = cmb W B sk ek v := by
  funext j; simp only [updN, cmb]
  by_cases e : j = 48
  · subst e; rfl
  · rw [if_neg e, if_neg e, if_neg e]
theorem fill_cmb {a b v : Nat} (h : b ≤ 41) : fillE (cmb W B sk ek tr) a b v = cmb (fillE W a b v) B sk ek tr := by
  funext j; simp only [fillE, cmb]
  by_cases e : j ≤ 40
  · rw [if_pos e, if_pos e]
  · rw [if_neg e, if_neg e, if_neg (by omega)]
theorem cut_cmb {p : Nat → Bool} : cutN (cmb W B sk ek tr) p 40 = cmb (cutN W p 40) B sk ek tr := by
  funext j; simp only [cutN, cmb]
  by_cases e : j ≤ 40
  · rw [if_pos e, if_pos e]
  · rw [if_neg e, if_neg e, if_neg (by omega)]
theorem okS_cmb (hW : ∀ j, W j ≤ 9) (hB : okB B) (hsk : sk ≤ 3) (hek : ek ≤ 4) (htr : tr ≤ 99) : okS (cmb W B sk ek tr) :=
  ⟨fun j hj => by rw [cmb_le hj]; exact hW j, hB.1, hB.2.1, hB.2.2.1, hB.2.2.2.1, hB.2.2.2.2, hsk, hek, htr⟩
theorem okB_upd {i v : Nat} (hB : okB B) (h : leastN i ≤ v ∧ v ≤ greatN i) (hi : i < 5) : okB (updN B i v) := by
  obtain ⟨⟨a1, a2⟩, ⟨b1, b2⟩, c1, d1, e1⟩ := hB
  rcases (show i = 0 ∨ i = 1 ∨ i = 2 ∨ i = 3 ∨ i = 4 by omega) with e | e | e | e | e <;> subst e
  · exact ⟨h, ⟨b1, b2⟩, c1, d1, e1⟩
  · exact ⟨⟨a1, a2⟩, h, c1, d1, e1⟩
  · exact ⟨⟨a1, a2⟩, ⟨b1, b2⟩, h.2, d1, e1⟩
  · exact ⟨⟨a1, a2⟩, ⟨b1, b2⟩, c1, h.2, e1⟩
  · exact ⟨⟨a1, a2⟩, ⟨b1, b2⟩, c1, d1, h.2⟩
end CMB
theorem fill_le {W : Nat → Nat} {a b v : Nat} (h : ∀ j, W j ≤ 9) (hv : v ≤ 9) : ∀ j, fillE W a b v j ≤ 9 := fun j => by
  simp only [fillE]; split
  · exact hv
  · exact h j
theorem cut_le9 {W : Nat → Nat} {p : Nat → Bool} {n : Nat} (h : ∀ j, W j ≤ 9) : ∀ j, cutN W p n j ≤ 9 := fun j => by
  simp only [cutN]; split
  · omega
  · exact h j
theorem cut_z {W : Nat → Nat} {p : Nat → Bool} {n : Nat} : cutN W p n 0 = W 0 := by simp only [cutN]; rw [if_neg (by omega)]
/-! ===== what a statement does, by its first letter ===== -/
section EFF
variable {tx : Nat → Nat} {p : Nat} {W B : Nat → Nat} {sk ek tr : Nat}
theorem fm_mem {c : Nat} (h : fmN c < 6) : c = 108 ∨ c = 98 ∨ c = 115 ∨ c = 101 ∨ c = 112 ∨ c = 116 := by
  unfold fmN at h
  rcases (show c = 108 ∨ c = 98 ∨ c = 115 ∨ c = 101 ∨ c = 112 ∨ c = 116 ∨ (c ≠ 108 ∧ c ≠ 98 ∧ c ≠ 115 ∧ c ≠ 101 ∧ c ≠ 112 ∧ c ≠ 116) by omega) with e | e | e | e | e | e | e
  · exact Or.inl e
  · exact Or.inr (Or.inl e)
  · exact Or.inr (Or.inr (Or.inl e))
  · exact Or.inr (Or.inr (Or.inr (Or.inl e)))
  · exact Or.inr (Or.inr (Or.inr (Or.inr (Or.inl e))))
  · exact Or.inr (Or.inr (Or.inr (Or.inr (Or.inr e))))
  · rw [if_neg e.1, if_neg e.2.1, if_neg e.2.2.1, if_neg e.2.2.2.1, if_neg e.2.2.2.2.1, if_neg e.2.2.2.2.2] at h
    omega
theorem ef_l {S : Nat → Nat} (hi : fmN (tx p) = 0) (hv : dg tx (p + 5) ≤ 9) : (effB S (fmN (tx p)) (fdP tx p) = true) ↔ ((1 ≤ pr2 tx (p + 1) ∧ pr2 tx (p + 1) ≤ 40) ∧ (1 ≤ pr2 tx (p + 3) ∧ pr2 tx (p + 3) ≤ 40) ∧ pr2 tx (p + 1) ≤ pr2 tx (p + 3) ∧ dg tx (p + 5) ≤ 9) := by
  unfold effB
  rw [if_pos hi]
  have e0 : fdP tx p 0 = pr2 tx (p + 1) := by unfold fdP; rw [if_pos hi]; rfl
  have e1 : fdP tx p 1 = pr2 tx (p + 3) := by unfold fdP; rw [if_pos hi]; rfl
  rw [e0, e1, decide_eq_true_eq]
  exact ⟨fun h => ⟨h.1, h.2.1, h.2.2, hv⟩, fun h => ⟨h.1, h.2.1, h.2.2.1⟩⟩
theorem es_l {S : Nat → Nat} (hi : fmN (tx p) = 0) : effS S (fmN (tx p)) (fdP tx p) = fillE S (pr2 tx (p + 1)) (pr2 tx (p + 3) + 1) (dg tx (p + 5)) := by
  unfold effS
  rw [if_pos hi]
  have e0 : fdP tx p 0 = pr2 tx (p + 1) := by unfold fdP; rw [if_pos hi]; rfl
  have e1 : fdP tx p 1 = pr2 tx (p + 3) := by unfold fdP; rw [if_pos hi]; rfl
  have e2 : fdP tx p 2 = dg tx (p + 5) := by unfold fdP; rw [if_pos hi]; rfl
  rw [e0, e1, e2]
theorem ef_b {S : Nat → Nat} (hi : fmN (tx p) = 1) : (effB S (fmN (tx p)) (fdP tx p) = true) ↔ (leastN 0 ≤ dg tx (p + 1) ∧ dg tx (p + 1) ≤ greatN 0) := by
  have e0 : fdP tx p 0 = dg tx (p + 1) := by unfold fdP; rw [hi]; rfl
  unfold effB; rw [hi, e0]
  show decide (2 ≤ dg tx (p + 1) ∧ dg tx (p + 1) ≤ 7) = true ↔ _
  rw [decide_eq_true_eq]; exact Iff.rfl
theorem es_b {S : Nat → Nat} (hi : fmN (tx p) = 1) : effS S (fmN (tx p)) (fdP tx p) = updN S 41 (dg tx (p + 1)) := by
  have e0 : fdP tx p 0 = dg tx (p + 1) := by unfold fdP; rw [hi]; rfl
  unfold effS; rw [hi, e0]; rfl
theorem ef_s {S : Nat → Nat} (hi : fmN (tx p) = 2) (hv : dg tx (p + 2) ≤ 9) : (effB S (fmN (tx p)) (fdP tx p) = true) ↔ (leastN 1 ≤ dg tx (p + 2) ∧ dg tx (p + 2) ≤ greatN 1) := by
  have e0 : fdP tx p 1 = dg tx (p + 2) := by unfold fdP; rw [hi]; rfl
  unfold effB; rw [hi, e0]
  show decide (0 < dg tx (p + 2)) = true ↔ (1 ≤ dg tx (p + 2) ∧ dg tx (p + 2) ≤ 9)
  rw [decide_eq_true_eq]; omega
theorem es_s {S : Nat → Nat} (hi : fmN (tx p) = 2) : effS S (fmN (tx p)) (fdP tx p) = updN (updN S 46 (ixN (fb 7) (tx (p + 1)) 4 0)) 42 (dg tx (p + 2)) := by
  have e0 : fdP tx p 0 = ixN (fb 7) (tx (p + 1)) 4 0 := by unfold fdP; rw [hi]; rfl
  have e1 : fdP tx p 1 = dg tx (p + 2) := by unfold fdP; rw [hi]; rfl
  unfold effS; rw [hi, e0, e1]; rfl
theorem ef_e {S : Nat → Nat} (hi : fmN (tx p) = 3) (hv : dg tx (p + 2) ≤ 9) : (effB S (fmN (tx p)) (fdP tx p) = true) ↔ (leastN 2 ≤ dg tx (p + 2) ∧ dg tx (p + 2) ≤ greatN 2) := by
  unfold effB; rw [hi]
  show true = true ↔ (0 ≤ dg tx (p + 2) ∧ dg tx (p + 2) ≤ 9)
  exact ⟨fun _ => ⟨Nat.zero_le _, hv⟩, fun _ => rfl⟩
theorem es_e {S : Nat → Nat} (hi : fmN (tx p) = 3) : effS S (fmN (tx p)) (fdP tx p) = updN (updN S 47 (ixN (fb 8) (tx (p + 1)) 5 0)) 43 (dg tx (p + 2)) := by
  have e0 : fdP tx p 0 = ixN (fb 8) (tx (p + 1)) 5 0 := by unfold fdP; rw [hi]; rfl
  have e1 : fdP tx p 1 = dg tx (p + 2) := by unfold fdP; rw [hi]; rfl
  unfold effS; rw [hi, e0, e1]; rfl
theorem ef_p {S : Nat → Nat} (hi : fmN (tx p) = 4) : effB S (fmN (tx p)) (fdP tx p) = true := by
  unfold effB; rw [hi]; rfl
theorem es_p {S : Nat → Nat} (hi : fmN (tx p) = 4) : effS S (fmN (tx p)) (fdP tx p) = updN (updN S 44 (pr2 tx (p + 1))) 45 (pr2 tx (p + 3)) := by
  have e0 : fdP tx p 0 = pr2 tx (p + 1) := by unfold fdP; rw [hi]; rfl
  have e1 : fdP tx p 1 = pr2 tx (p + 3) := by unfold fdP; rw [hi]; rfl
  unfold effS; rw [hi, e0, e1]; rfl
theorem ef_t (hi : fmN (tx p) = 5) (htr : tr ≤ 99) : (effB (cmb W B sk ek tr) (fmN (tx p)) (fdP tx p) = true) ↔ ((1 ≤ pr2 tx (p + 1) ∧ pr2 tx (p + 1) ≤ 40) ∧ tr < 99 ∧ cnS (prt (tlT B sk ek) (lpB W) (pr2 tx (p + 1)) (dg tx (p + 3))) ≠ 0) := by
  have e0 : fdP tx p 0 = pr2 tx (p + 1) := by unfold fdP; rw [hi]; rfl
  have e1 : fdP tx p 1 = dg tx (p + 3) := by unfold fdP; rw [hi]; rfl
  unfold effB; rw [hi, e0, e1, tlS_cmb, lpB_cmb, cmb_48]
  show decide ((1 ≤ pr2 tx (p + 1) ∧ pr2 tx (p + 1) ≤ 40) ∧ tr ≠ 99 ∧ cnS (prt (tlT B sk ek) (lpB W) (pr2 tx (p + 1)) (dg tx (p + 3))) ≠ 0) = true ↔ _
  rw [decide_eq_true_eq]
  exact ⟨fun h => ⟨h.1, by omega, h.2.2⟩, fun h => ⟨h.1, by omega, h.2.2⟩⟩
theorem es_t (hi : fmN (tx p) = 5) : effS (cmb W B sk ek tr) (fmN (tx p)) (fdP tx p) = cmb (cutN W (prt (tlT B sk ek) (lpB W) (pr2 tx (p + 1)) (dg tx (p + 3))) 40) B sk ek (tr + 1) := by
  have e0 : fdP tx p 0 = pr2 tx (p + 1) := by unfold fdP; rw [hi]; rfl
  have e1 : fdP tx p 1 = dg tx (p + 3) := by unfold fdP; rw [hi]; rfl
  unfold effS; rw [hi, e0, e1, tlS_cmb, lpB_cmb, cmb_48]
  show updN (cutN (cmb W B sk ek tr) _ 40) 48 (tr + 1) = _
  rw [cut_cmb, upd_48]
end EFF
theorem okc_s {c : Nat} (h : okc 115 c = true) : ixN (fb 7) c 4 0 < 4 := by
  unfold okc at h; rw [if_neg (by decide), if_pos rfl] at h; exact of_decide_eq_true h
theorem okc_e {c : Nat} (h : okc 101 c = true) : ixN (fb 8) c 5 0 < 5 := by
  unfold okc at h; rw [if_neg (by decide), if_neg (by decide), if_pos rfl] at h; exact of_decide_eq_true h
theorem dg_b {tx : Nat → Nat} {p : Nat} (h : 48 ≤ tx p ∧ tx p ≤ 57) : dg tx p ≤ 9 := by unfold dg; omega
theorem pr2_b {tx : Nat → Nat} {p : Nat} (h : 48 ≤ tx p ∧ tx p ≤ 57) (h2 : 48 ≤ tx (p + 1) ∧ tx (p + 1) ≤ 57) : pr2 tx p ≤ 99 := by
  have a := dg_b h
  have b := dg_b h2
  unfold pr2; omega
theorem fill_z {W : Nat → Nat} {a b v : Nat} (h : 1 ≤ a) : fillE W a b v 0 = W 0 := by simp only [fillE]; rw [if_neg (by omega)]
/-- all letters: the answer, and what is then -/
def rdA (tx : Nat → Nat) (tn : Nat) (S : Nat → Nat) : Int32 := if (ms tx tn 100 0).2 = 0 then -1000 - nI (ms tx tn 100 0).1 else if (run tx tn 100 0 S).2 = 0 then nI (cn tx tn 100 0) else -2000 - nI ((run tx tn 100 0 S).2 - 1)
abbrev rdG (tx : Nat → Nat) (tn : Nat) (S : Nat → Nat) : Prop := (ms tx tn 100 0).2 ≠ 0 ∧ (run tx tn 100 0 S).2 = 0
theorem ms_le (tx : Nat → Nat) {tn : Nat} : ∀ d p, p ≤ tn → (ms tx tn d p).1 ≤ tn
  | 0, p, h => h
  | d + 1, p, h => by
    have h1 := stm_le tx h
    unfold ms; split
    · exact ms_le tx d _ h1
    · exact h1
theorem ms_01 (tx : Nat → Nat) (tn : Nat) : ∀ d p, (ms tx tn d p).2 = 0 ∨ (ms tx tn d p).2 = 1
  | 0, _ => Or.inr rfl
  | d + 1, p => by
    unfold ms; split
    · exact ms_01 tx tn d _
    · exact stm_01 tx tn p
theorem ms_stm {tx : Nat → Nat} {tn d p : Nat} (h : (ms tx tn (d + 1) p).2 = 1) : (stm tx tn p).2 = 1 ∧ ((stm tx tn p).1 < tn → (ms tx tn d (stm tx tn p).1).2 = 1) := by
  by_cases c : (stm tx tn p).2 = 1 ∧ (stm tx tn p).1 < tn
  · rw [ms_go c.1 c.2] at h; exact ⟨c.1, fun _ => h⟩
  · rw [ms_end c] at h; exact ⟨h, fun z => absurd ⟨h, z⟩ c⟩
theorem run_go {tx : Nat → Nat} {tn d p : Nat} {S : Nat → Nat} (h : p < tn) (he : effB S (fmN (tx p)) (fdP tx p) = true) : run tx tn (d + 1) p S = run tx tn d (stm tx tn p).1 (effS S (fmN (tx p)) (fdP tx p)) := by
  show (if p < tn then _ else _) = _
  rw [if_pos h, if_pos he]
theorem run_no {tx : Nat → Nat} {tn d p : Nat} {S : Nat → Nat} (h : p < tn) (he : ¬ effB S (fmN (tx p)) (fdP tx p) = true) : run tx tn (d + 1) p S = (S, p + 1) := by
  show (if p < tn then _ else _) = _
  rw [if_pos h, if_neg he]
theorem run_end {tx : Nat → Nat} {tn p : Nat} {S : Nat → Nat} (h : tn ≤ p) : ∀ d, run tx tn d p S = (S, 0)
  | 0 => rfl
  | d + 1 => by
    show (if p < tn then _ else _) = _
    rw [if_neg (by omega)]
theorem cn_go {tx : Nat → Nat} {tn d p : Nat} (h : p < tn) : cn tx tn (d + 1) p = 1 + cn tx tn d (stm tx tn p).1 := if_pos h
theorem cn_end {tx : Nat → Nat} {tn p : Nat} (h : tn ≤ p) : ∀ d, cn tx tn d p = 0
  | 0 => rfl
  | d + 1 => by
    show (if p < tn then _ else _) = _
    rw [if_neg (by omega)]
theorem cn_le {tx : Nat → Nat} {tn : Nat} : ∀ d p, cn tx tn d p ≤ d
  | 0, _ => Nat.le_refl 0
  | d + 1, p => by
    have ih := cn_le (tx := tx) (tn := tn) d (stm tx tn p).1
    unfold cn; split <;> omega
theorem neg_1000 {n : Nat} (h : n ≤ 96) : ((-1000 : Int32) - nI n).toInt ≤ 0 := by
  have e0 : (-1000 : Int32) = Int32.ofInt (-1000) := by decide
  have e : (-1000 : Int32) - nI n = Int32.ofInt ((-1000 : Int) - (n : Int)) := by rw [e0, Int32.ofInt_sub]; rfl
  rw [e, Int32.toInt_ofInt_of_le (by omega) (by omega)]; omega
theorem neg_2000 {n : Nat} (h : n ≤ 96) : ((-2000 : Int32) - nI n).toInt ≤ 0 := by
  have e0 : (-2000 : Int32) = Int32.ofInt (-2000) := by decide
  have e : (-2000 : Int32) - nI n = Int32.ofInt ((-2000 : Int) - (n : Int)) := by rw [e0, Int32.ofInt_sub]; rfl
  rw [e, Int32.toInt_ofInt_of_le (by omega) (by omega)]; omega
theorem run_le {tx : Nat → Nat} {tn : Nat} : ∀ d p S, (run tx tn d p S).2 ≤ tn
  | 0, _, _ => Nat.zero_le _
  | d + 1, p, S => by
    unfold run; split
    · split
      · exact run_le d _ _
      · next h _ => show p + 1 ≤ tn; omega
    · exact Nat.zero_le _
theorem rdA_pos {tx : Nat → Nat} {tn : Nat} {S : Nat → Nat} (ht : tn ≤ 96) (h : 0 < (rdA tx tn S).toInt) : rdG tx tn S := by
  unfold rdA at h
  by_cases c : (ms tx tn 100 0).2 = 0
  · rw [if_pos c] at h
    have := neg_1000 (n := (ms tx tn 100 0).1) (Nat.le_trans (ms_le tx 100 0 (Nat.zero_le _)) ht)
    omega
  · rw [if_neg c] at h
    by_cases c2 : (run tx tn 100 0 S).2 = 0
    · exact ⟨c, c2⟩
    · rw [if_neg c2] at h
      have := neg_2000 (n := (run tx tn 100 0 S).2 - 1) (by have := run_le (tx := tx) (tn := tn) 100 0 S; omega)
      omega
theorem rdA_neg {tx : Nat → Nat} {tn : Nat} {S : Nat → Nat} (ht : tn ≤ 96) (hg : rdG tx tn S) (h : (rdA tx tn S).toInt ≤ 0) : False := by
  unfold rdA at h
  rw [if_neg hg.1, if_pos hg.2] at h
  have h1 := (ms_01 tx tn 100 0).resolve_left hg.1
  have h2 := (stm_ok (ms_stm (d := 99) h1).1).1
  have h3 : cn tx tn 100 0 = 1 + cn tx tn 99 (stm tx tn 0).1 := cn_go (d := 99) h2
  have h4 := cn_le (tx := tx) (tn := tn) 100 0
  rw [nI_toInt (by omega)] at h
  omega
theorem ite_iff {P Q : Prop} [Decidable P] [Decidable Q] (h : P ↔ Q) : nI (if P then 1 else 0) = nI (if Q then 1 else 0) := by
  by_cases hp : P
  · rw [if_pos hp, if_pos (h.mp hp)]
  · rw [if_neg hp, if_neg (fun q => hp (h.mpr q))]
