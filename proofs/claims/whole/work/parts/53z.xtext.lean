/-! ===== the reference reads letters ===== -/
def begN (k : Nat) : Nat := ([108, 98, 115, 101, 112, 116] : List Nat).getD k 0
theorem beg_fm (c : Nat) : ixN begN c 6 0 = fmN c := by
  have e0 : begN 0 = 108 := rfl
  have e1 : begN 1 = 98 := rfl
  have e2 : begN 2 = 115 := rfl
  have e3 : begN 3 = 101 := rfl
  have e4 : begN 4 = 112 := rfl
  have e5 : begN 5 = 116 := rfl
  simp only [ixN, e0, e1, e2, e3, e4, e5, fmN, eq_comm (a := c)]
theorem ok115 : (fun c_ => decide (ixN (fb 7) c_ 4 0 < 4)) = okc 115 := by
  funext c; unfold okc; rw [if_neg (by decide), if_pos rfl]
theorem ok101 : (fun c_ => decide (ixN (fb 8) c_ 5 0 < 5)) = okc 101 := by
  funext c; unfold okc; rw [if_neg (by decide), if_neg (by decide), if_pos rfl]
section ST1
variable {P : Nat → Bool} {tx : Nat → Nat} {tn a w : Nat}
theorem st1_yes (hw : w = 1) (h1 : a < tn) (h2 : P (tx a) = true) : st1 P tx tn (a, w) = (a + 1, 1) := by
  unfold st1; exact if_pos ⟨hw, h1, h2⟩
theorem st1_no (h : ¬ (w = 1 ∧ a < tn ∧ P (tx a) = true)) : st1 P tx tn (a, w) = (a, 0) := by
  unfold st1; exact if_neg h
theorem st1_1 {a' w' : Nat} (h : (a', w') = st1 P tx tn (a, w)) (hw : w' = 1) : w = 1 ∧ a < tn ∧ P (tx a) = true ∧ a' = a + 1 := by
  by_cases c : w = 1 ∧ a < tn ∧ P (tx a) = true
  · rw [st1_yes c.1 c.2.1 c.2.2] at h
    exact ⟨c.1, c.2.1, c.2.2, congrArg Prod.fst h⟩
  · rw [st1_no c] at h
    have h2 : w' = 0 := congrArg Prod.snd h
    omega
end ST1
def itD (tx : Nat → Nat) (tn : Nat) : Nat → Nat × Nat → Nat × Nat
  | 0, q => q
  | k + 1, q => st1 (okc 48) tx tn (itD tx tn k q)
/-- figures: the number so far, at, well -/
def fgV (tx : Nat → Nat) (tn a w : Nat) : Nat → Nat × (Nat × Nat)
  | 0 => (0, (a, w))
  | k + 1 => if (fgV tx tn a w k).2.2 = 1 ∧ (fgV tx tn a w k).2.1 < tn ∧ okc 48 (tx (fgV tx tn a w k).2.1) = true then (10 * (fgV tx tn a w k).1 + tx (fgV tx tn a w k).2.1 - 48, ((fgV tx tn a w k).2.1 + 1, 1)) else ((fgV tx tn a w k).1, ((fgV tx tn a w k).2.1, 0))
section FGV
variable {tx : Nat → Nat} {tn a w : Nat}
theorem fg_yes {k v b u : Nat} (h : fgV tx tn a w k = (v, (b, u))) (hu : u = 1) (h1 : b < tn) (h2 : 48 ≤ tx b ∧ tx b ≤ 57) : fgV tx tn a w (k + 1) = (10 * v + tx b - 48, (b + 1, u)) := by
  simp only [fgV, h]; subst hu
  exact if_pos ⟨rfl, h1, by unfold okc; rw [if_pos rfl]; exact decide_eq_true h2⟩
theorem fg_no {k v b u : Nat} (h : fgV tx tn a w k = (v, (b, u))) (hn : ¬ (u = 1 ∧ b < tn ∧ (48 ≤ tx b ∧ tx b ≤ 57))) : fgV tx tn a w (k + 1) = (v, (b, 0)) := by
  simp only [fgV, h]
  exact if_neg (fun z => hn ⟨z.1, z.2.1, okc_d z.2.2⟩)
theorem fg_2 : ∀ k, (fgV tx tn a w k).2 = itD tx tn k (a, w)
  | 0 => rfl
  | k + 1 => by
    have ih := fg_2 k
    show _ = st1 (okc 48) tx tn (itD tx tn k (a, w))
    rw [← ih]
    simp only [fgV, st1]
    split <;> rfl
theorem fg_v1 {v b u : Nat} (h : (v, (b, u)) = fgV tx tn a w 1) (hu : u = 1) : w = 1 ∧ b = a + 1 ∧ v = dg tx a := by
  by_cases c : w = 1 ∧ a < tn ∧ (48 ≤ tx a ∧ tx a ≤ 57)
  · rw [fg_yes (k := 0) (v := 0) (b := a) (u := w) rfl c.1 c.2.1 c.2.2] at h
    have e1 : v = 10 * 0 + tx a - 48 := congrArg Prod.fst h
    have e2 : b = a + 1 := congrArg (fun z => z.2.1) h
    exact ⟨c.1, e2, by unfold dg; omega⟩
  · rw [fg_no (k := 0) (v := 0) (b := a) (u := w) rfl c] at h
    have e3 : u = 0 := congrArg (fun z => z.2.2) h
    omega
theorem fg_v2 {v b u : Nat} (h : (v, (b, u)) = fgV tx tn a w 2) (hu : u = 1) : w = 1 ∧ b = a + 2 ∧ v = pr2 tx a := by
  obtain ⟨v1, b1, u1, e⟩ : ∃ v1 b1 u1, (v1, (b1, u1)) = fgV tx tn a w 1 := ⟨_, _, _, rfl⟩
  by_cases c : u1 = 1 ∧ b1 < tn ∧ (48 ≤ tx b1 ∧ tx b1 ≤ 57)
  · rw [fg_yes e.symm c.1 c.2.1 c.2.2] at h
    obtain ⟨hw, hb, hv⟩ := fg_v1 e c.1
    have e1 : v = 10 * v1 + tx b1 - 48 := congrArg Prod.fst h
    have e2 : b = b1 + 1 := congrArg (fun z => z.2.1) h
    subst hb
    refine ⟨hw, by omega, ?_⟩
    have c2 := c.2.2
    unfold pr2; rw [← hv]; unfold dg; omega
  · rw [fg_no e.symm c] at h
    have e3 : u = 0 := congrArg (fun z => z.2.2) h
    omega
end FGV
theorem stm_chain {tx : Nat → Nat} {tn p a1 w1 r : Nat} (h : (a1, w1) = st1 (fun c_ => decide (ixN begN c_ 6 0 < 6)) tx tn (p, 1)) (h1 : w1 = 1 → r = ixN begN (tx p) 6 0) : stm tx tn p = scn tx tn r (ln r) (a1, w1) ∧ (w1 = 1 → r = fmN (tx p) ∧ a1 = p + 1) := by
  unfold stm
  by_cases c : p < tn ∧ fmN (tx p) < 6
  · rw [st1_yes rfl c.1 (by show decide _ = true; rw [beg_fm]; exact decide_eq_true c.2)] at h
    have e1 : a1 = p + 1 := congrArg Prod.fst h
    have e2 : w1 = 1 := congrArg Prod.snd h
    have e3 := h1 e2
    rw [beg_fm] at e3
    subst e1; subst e2; subst e3
    exact ⟨if_pos c, fun _ => ⟨rfl, rfl⟩⟩
  · rw [st1_no (fun z => c ⟨z.2.1, by have := of_decide_eq_true z.2.2; rw [beg_fm] at this; exact this⟩)] at h
    have e1 : a1 = p := congrArg Prod.fst h
    have e2 : w1 = 0 := congrArg Prod.snd h
    subst e1; subst e2
    exact ⟨by rw [if_neg c]; exact (scn_0 _ (show (0 : Nat) ≠ 1 by decide) rfl).symm, fun z => absurd z (by decide)⟩
/-- what a read statement's fields may be -/
def FDB (si : Nat) (fd : Nat → Nat) : Prop := si ≤ 5 ∧ fd 0 ≤ 99 ∧ fd 1 ≤ 99 ∧ (si = 0 → fd 2 ≤ 9) ∧ (si = 2 → fd 0 ≤ 3 ∧ fd 1 ≤ 9) ∧ (si = 3 → fd 0 ≤ 4 ∧ fd 1 ≤ 9)
def FDE (tx : Nat → Nat) (p si : Nat) (fd : Nat → Nat) : Prop := FDB si fd ∧ ∀ S, effB S si fd = effB S (fmN (tx p)) (fdP tx p) ∧ effS S si fd = effS S (fmN (tx p)) (fdP tx p)
theorem ef_cong {S fd fd' : Nat → Nat} {si : Nat} (h0 : fd 0 = fd' 0) (h1 : si ≠ 1 → fd 1 = fd' 1) (h2 : si = 0 → fd 2 = fd' 2) : effB S si fd = effB S si fd' ∧ effS S si fd = effS S si fd' := by
  unfold effB effS
  by_cases e0 : si = 0
  · constructor <;> simp only [if_pos e0, h0, h1 (show si ≠ 1 by omega), h2 e0]
  · by_cases e1 : si = 1
    · constructor <;> simp only [if_neg e0, if_pos e1, h0]
    · constructor <;> simp only [if_neg e0, if_neg e1, h0, h1 e1]
theorem effS_ok {S fd : Nat → Nat} {si : Nat} (hO : okS S) (hb : FDB si fd) (h : effB S si fd = true) : okS (effS S si fd) := by
  obtain ⟨a0, a1, a2, a3, a4, a5, a6, a7, a8⟩ := hO
  obtain ⟨b0, b1, b2, b3, b4, b5⟩ := hb
  unfold effB at h
  unfold effS
  by_cases e0 : si = 0
  · rw [if_pos e0] at h ⊢
    have h := of_decide_eq_true h
    have b3 := b3 e0
    have hf : ∀ j, 40 < j → fillE S (fd 0) (fd 1 + 1) (fd 2) j = S j := fun j hj => by simp only [fillE]; rw [if_neg (by omega)]
    have h0 : ∀ j, j ≤ 40 → fillE S (fd 0) (fd 1 + 1) (fd 2) j ≤ 9 := fun j hj => by
      simp only [fillE]; split
      · exact b3
      · exact a0 j hj
    exact ⟨h0, by rw [hf 41 (by omega)]; exact a1, by rw [hf 42 (by omega)]; exact a2, by rw [hf 43 (by omega)]; exact a3, by rw [hf 44 (by omega)]; exact a4, by rw [hf 45 (by omega)]; exact a5, by rw [hf 46 (by omega)]; exact a6, by rw [hf 47 (by omega)]; exact a7, by rw [hf 48 (by omega)]; exact a8⟩
  · by_cases e1 : si = 1
    · rw [if_neg e0, if_pos e1] at h ⊢
      have h := of_decide_eq_true h
      exact ⟨fun j hj => by rw [updN_ne (by omega)]; exact a0 j hj, h, a2, a3, a4, a5, a6, a7, a8⟩
    · by_cases e2 : si = 2
      · rw [if_neg e0, if_neg e1, if_pos e2] at h ⊢
        have h := of_decide_eq_true h
        exact ⟨fun j hj => by rw [updN_ne (by omega), updN_ne (by omega)]; exact a0 j hj, a1, ⟨h, (b4 e2).2⟩, a3, a4, a5, (b4 e2).1, a7, a8⟩
      · by_cases e3 : si = 3
        · rw [if_neg e0, if_neg e1, if_neg e2, if_pos e3] at h ⊢
          exact ⟨fun j hj => by rw [updN_ne (by omega), updN_ne (by omega)]; exact a0 j hj, a1, a2, (b5 e3).2, a4, a5, a6, (b5 e3).1, a8⟩
        · by_cases e4 : si = 4
          · rw [if_neg e0, if_neg e1, if_neg e2, if_neg e3, if_pos e4] at h ⊢
            exact ⟨fun j hj => by rw [updN_ne (by omega), updN_ne (by omega)]; exact a0 j hj, a1, a2, a3, b1, b2, a6, a7, a8⟩
          · rw [if_neg e0, if_neg e1, if_neg e2, if_neg e3, if_neg e4] at h ⊢
            have h := of_decide_eq_true h
            have hf : ∀ j, 40 < j → j ≠ 48 → updN (cutN S (prt (tlS S) (lpB S) (fd 0) (fd 1)) 40) 48 (S 48 + 1) j = S j := fun j hj h48 => by
              rw [updN_ne h48]; simp only [cutN]; rw [if_neg (by omega)]
            exact ⟨fun j hj => by rw [updN_ne (by omega)]; exact cutN_le a0 j hj, by rw [hf 41 (by omega) (by omega)]; exact a1, by rw [hf 42 (by omega) (by omega)]; exact a2, by rw [hf 43 (by omega) (by omega)]; exact a3, by rw [hf 44 (by omega) (by omega)]; exact a4, by rw [hf 45 (by omega) (by omega)]; exact a5, by rw [hf 46 (by omega) (by omega)]; exact a6, by rw [hf 47 (by omega) (by omega)]; exact a7, by rw [updN_same]; omega⟩
section FDS
variable {tx : Nat → Nat} {tn p : Nat} {q : Nat × Nat} {fd : Nat → Nat}
theorem scn_i0 : scn tx tn 0 (ln 0) q = st1 (okc 59) tx tn (itD tx tn 1 (itD tx tn 2 (itD tx tn 2 q))) := rfl
theorem scn_i1 : scn tx tn 1 (ln 1) q = st1 (okc 59) tx tn (itD tx tn 1 q) := rfl
theorem scn_i2 : scn tx tn 2 (ln 2) q = st1 (okc 59) tx tn (itD tx tn 1 (st1 (okc 115) tx tn q)) := rfl
theorem scn_i3 : scn tx tn 3 (ln 3) q = st1 (okc 59) tx tn (itD tx tn 1 (st1 (okc 101) tx tn q)) := rfl
theorem scn_i4 : scn tx tn 4 (ln 4) q = st1 (okc 59) tx tn (itD tx tn 2 (itD tx tn 2 q)) := rfl
theorem scn_i5 : scn tx tn 5 (ln 5) q = st1 (okc 59) tx tn (itD tx tn 1 (itD tx tn 2 q)) := rfl
theorem ok_59 {c : Nat} (h : okc 59 c = true) : c = 59 := by
  unfold okc at h; rw [if_neg (by decide), if_neg (by decide), if_neg (by decide)] at h; exact of_decide_eq_true h
theorem ok59 : okc 59 59 = true := by decide
theorem beg_b : ∀ j, begN j < 256 := fun j => by
  rcases (show j < 6 ∨ 6 ≤ j by omega) with h | h
  · have : ∀ j, j < 6 → begN j < 256 := by decide
    exact this j h
  · have e : begN j = 0 := by
      unfold begN; rw [List.getD_eq_getElem?_getD, List.getElem?_eq_none (by simpa using h)]; rfl
    omega
theorem fb7_b : ∀ j, fb 7 j < 256 := fun j => by
  rcases (show j < 4 ∨ 4 ≤ j by omega) with h | h
  · have := fb_b 7 (by omega) j (by omega); omega
  · have e : fb 7 j = 0 := by
      show ([97, 100, 104, 98] : List Nat).getD j 0 = 0
      rw [List.getD_eq_getElem?_getD, List.getElem?_eq_none (by simpa using h)]; rfl
    omega
theorem fb8_b : ∀ j, fb 8 j < 256 := fun j => by
  rcases (show j < 5 ∨ 5 ≤ j by omega) with h | h
  · have := fb_b 8 (by omega) j (by omega); omega
  · have e : fb 8 j = 0 := by
      show ([101, 119, 100, 115, 99] : List Nat).getD j 0 = 0
      rw [List.getD_eq_getElem?_getD, List.getElem?_eq_none (by simpa using h)]; rfl
    omega
theorem fde_0 (hf : fmN (tx p) = 0) (h0 : fd 0 = pr2 tx (p + 1)) (h1 : fd 1 = pr2 tx (p + 3)) (h2 : fd 2 = dg tx (p + 5)) (b : fd 0 ≤ 99 ∧ fd 1 ≤ 99 ∧ fd 2 ≤ 9) : FDE tx p 0 fd := by
  refine ⟨⟨by omega, b.1, b.2.1, fun _ => b.2.2, fun z => by omega, fun z => by omega⟩, fun S => ?_⟩
  rw [hf]
  exact ef_cong (h0.trans (by unfold fdP; rw [hf]; rfl)) (fun _ => h1.trans (by unfold fdP; rw [hf]; rfl)) (fun _ => h2.trans (by unfold fdP; rw [hf]; rfl))
theorem fde_1 (hf : fmN (tx p) = 1) (h0 : fd 0 = dg tx (p + 1)) (b : fd 0 ≤ 99) (b1 : fd 1 ≤ 99) : FDE tx p 1 fd := by
  refine ⟨⟨by omega, b, b1, fun z => by omega, fun z => by omega, fun z => by omega⟩, fun S => ?_⟩
  rw [hf]
  exact ef_cong (h0.trans (by unfold fdP; rw [hf]; rfl)) (fun z => absurd rfl z) (fun z => by omega)
theorem fde_2 (hf : fmN (tx p) = 2) (h0 : fd 0 = ixN (fb 7) (tx (p + 1)) 4 0) (h1 : fd 1 = dg tx (p + 2)) (b : fd 0 ≤ 3 ∧ fd 1 ≤ 9) : FDE tx p 2 fd := by
  refine ⟨⟨by omega, by omega, by omega, fun z => by omega, fun _ => b, fun z => by omega⟩, fun S => ?_⟩
  rw [hf]
  exact ef_cong (h0.trans (by unfold fdP; rw [hf]; rfl)) (fun _ => h1.trans (by unfold fdP; rw [hf]; rfl)) (fun z => by omega)
theorem fde_3 (hf : fmN (tx p) = 3) (h0 : fd 0 = ixN (fb 8) (tx (p + 1)) 5 0) (h1 : fd 1 = dg tx (p + 2)) (b : fd 0 ≤ 4 ∧ fd 1 ≤ 9) : FDE tx p 3 fd := by
  refine ⟨⟨by omega, by omega, by omega, fun z => by omega, fun z => by omega, fun _ => b⟩, fun S => ?_⟩
  rw [hf]
  exact ef_cong (h0.trans (by unfold fdP; rw [hf]; rfl)) (fun _ => h1.trans (by unfold fdP; rw [hf]; rfl)) (fun z => by omega)
theorem fde_4 (hf : fmN (tx p) = 4) (h0 : fd 0 = pr2 tx (p + 1)) (h1 : fd 1 = pr2 tx (p + 3)) (b : fd 0 ≤ 99 ∧ fd 1 ≤ 99) : FDE tx p 4 fd := by
  refine ⟨⟨by omega, b.1, b.2, fun z => by omega, fun z => by omega, fun z => by omega⟩, fun S => ?_⟩
  rw [hf]
  exact ef_cong (h0.trans (by unfold fdP; rw [hf]; rfl)) (fun _ => h1.trans (by unfold fdP; rw [hf]; rfl)) (fun z => by omega)
theorem fde_5 (hf : fmN (tx p) = 5) (h0 : fd 0 = pr2 tx (p + 1)) (h1 : fd 1 = dg tx (p + 3)) (b : fd 0 ≤ 99 ∧ fd 1 ≤ 99) : FDE tx p 5 fd := by
  refine ⟨⟨by omega, b.1, b.2, fun z => by omega, fun z => by omega, fun z => by omega⟩, fun S => ?_⟩
  rw [hf]
  exact ef_cong (h0.trans (by unfold fdP; rw [hf]; rfl)) (fun _ => h1.trans (by unfold fdP; rw [hf]; rfl)) (fun z => by omega)
end FDS
