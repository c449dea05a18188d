/-! ===== the tables of strips ===== -/
def zrT (T : Nat → Int64) (a k : Nat) : Nat → Int64 := fun j => if a ≤ j ∧ j < a + k then lN 0 else T j
def lyT (T : Nat → Int64) (a : Nat) (t : Nat → Nat → Nat) (v n : Nat) : Nat → Int64 := fun j => if a ≤ j ∧ j < a + 9 then mskP (fun r => decide (t v r = j - a)) n else T j
theorem zrT_0 {T : Nat → Int64} {a : Nat} : zrT T a 0 = T := by funext j; simp only [zrT]; rw [if_neg (by omega)]
theorem zrT_step {T : Nat → Int64} {a k : Nat} : vp_updL (zrT T a k) (a + k) (lN 0) = zrT T a (k + 1) := by
  funext j; simp only [vp_updL, zrT]
  by_cases e : j = a + k
  · rw [if_pos e, if_pos (by omega)]
  · rw [if_neg e]
    by_cases h : a ≤ j ∧ j < a + k
    · rw [if_pos h, if_pos (by omega)]
    · rw [if_neg h, if_neg (by omega)]
theorem lyT_0 {T : Nat → Int64} {a : Nat} {t : Nat → Nat → Nat} {v : Nat} : zrT T a 9 = lyT T a t v 0 := rfl
theorem lyT_step {T : Nat → Int64} {a : Nat} {t : Nat → Nat → Nat} {v i : Nat} (hi : 1 ≤ i) (h9 : t v i < 9) : vp_updL (lyT T a t v (i - 1)) (a + t v i) (lyT T a t v (i - 1) (a + t v i) ||| (lN 1 <<< ((nI i).toInt64 &&& 63))) = lyT T a t v (i + 1 - 1) := by
  funext j; simp only [vp_updL, lyT]
  by_cases e : j = a + t v i
  · rw [if_pos e, if_pos (by omega), if_pos (by omega), e]
    exact (mskP_on (p := fun r => decide (t v r = a + t v i - a)) hi (decide_eq_true (by omega))).symm
  · rw [if_neg e]
    by_cases h : a ≤ j ∧ j < a + 9
    · rw [if_pos h, if_pos h]
      exact (mskP_off (p := fun r => decide (t v r = j - a)) hi (decide_eq_false (by omega))).symm
    · rw [if_neg h, if_neg h]
theorem lyT_at {T : Nat → Int64} {a : Nat} {t : Nat → Nat → Nat} {v k : Nat} (hk : k < 9) : lyT T a t v 40 (a + k) = tmk t v k := by
  simp only [lyT]; rw [if_pos (by omega)]; unfold tmk; rw [show a + k - a = k by omega]
theorem lyT_out {T : Nat → Int64} {a : Nat} {t : Nat → Nat → Nat} {v n j : Nat} (h : j < a ∨ a + 9 ≤ j) : lyT T a t v n j = T j := by
  simp only [lyT]; rw [if_neg (by omega)]
theorem enc_inj {ek fg st nb ek' fg' st' nb' : Nat} (h1 : fg ≤ 9) (h2 : st ≤ 9) (h3 : nb ≤ 7) (h1' : fg' ≤ 9) (h2' : st' ≤ 9) (h3' : nb' ≤ 7) (h : encS ek fg st nb = encS ek' fg' st' nb') : ek = ek' ∧ fg = fg' ∧ st = st' ∧ nb = nb' := by
  unfold encS at h; omega
theorem cch_hit {T : Nat → Int64} {Lb : Nat → Nat} {kd ek fg st nb : Nat} (h : Cch T Lb) (hk : kd < 4) (h1 : fg ≤ 9) (h2 : st ≤ 9) (h3 : nb ≤ 7) (h4 : 2 ≤ nb) (e : Lb kd = encS ek fg st nb) : Rdy T (kd * 369) (fun v r => tl nb st fg kd ek v r) := by
  rcases (h kd hk).2 with h0 | ⟨ek', fg', st', nb', hr, he, hR⟩
  · rw [h0] at e; unfold encS at e; omega
  · obtain ⟨e1, e2, e3, e4⟩ := enc_inj h1 h2 h3 hr.2.1 hr.2.2.1 hr.2.2.2 (e.symm.trans he)
    subst e1; subst e2; subst e3; subst e4
    exact hR
def tkI (T T1 : Nat → Int64) (kd : Nat) (t : Nat → Nat → Nat) (v : Nat) : Prop := (∀ u k, 1 ≤ u → u < v → k < 9 → T1 (kd * 369 + u * 9 + k) = tmk t u k) ∧ ∀ j, (j < kd * 369 + 9 ∨ kd * 369 + 369 ≤ j) → T1 j = T j
theorem tkI_step {T T1 : Nat → Int64} {kd : Nat} {t : Nat → Nat → Nat} {v : Nat} (h1 : 1 ≤ v) (h2 : v ≤ 40) (h : tkI T T1 kd t v) : tkI T (lyT T1 (kd * 369 + v * 9) t v 40) kd t (v + 1) := by
  refine ⟨fun u k hu1 hu2 hk => ?_, fun j hj => ?_⟩
  · by_cases e : u = v
    · subst e; exact lyT_at hk
    · rw [lyT_out (by omega)]; exact h.1 u k hu1 (by omega) hk
  · rw [lyT_out (by omega)]; exact h.2 j hj
theorem tkI_end {T T1 : Nat → Int64} {Lb : Nat → Nat} {kd ek fg st nb : Nat} (hC : Cch T Lb) (hk : kd < 4) (hr : ek ≤ 4 ∧ fg ≤ 9 ∧ st ≤ 9 ∧ nb ≤ 7) (h : tkI T T1 kd (fun v r => tl nb st fg kd ek v r) 41) : Cch T1 (updN Lb kd (encS ek fg st nb)) ∧ Rdy T1 (kd * 369) (fun v r => tl nb st fg kd ek v r) := by
  have hR : Rdy T1 (kd * 369) (fun v r => tl nb st fg kd ek v r) := fun v k h1 h2 h3 => h.1 v k h1 (by omega) h3
  refine ⟨fun kd' hk' => ?_, hR⟩
  by_cases e : kd' = kd
  · subst e
    rw [updN_same]
    refine ⟨by unfold encS; omega, Or.inr ⟨ek, fg, st, nb, hr, rfl, hR⟩⟩
  · rw [updN_ne e]
    refine ⟨(hC kd' hk').1, ?_⟩
    rcases (hC kd' hk').2 with h0 | ⟨ek', fg', st', nb', hr', he', hR'⟩
    · exact Or.inl h0
    · refine Or.inr ⟨ek', fg', st', nb', hr', he', fun v k h1 h2 h3 => ?_⟩
      rw [h.2 _ (by omega)]
      exact hR' v k h1 h2 h3
