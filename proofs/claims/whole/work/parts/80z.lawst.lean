/-! ===== both sides say the same ===== -/
section LST
variable {W B : Nat → Nat} {sk ek tr : Nat}
theorem sg_cmb : sg (cmb W B sk ek tr) 40 = sg W 40 := sg_congr 40 (fun r _ h => cmb_le h)
theorem wtS_cmb {p : Nat → Bool} : wtS (cmb W B sk ek tr) p = wtS W p := sg_congr 40 (fun r _ h => by
  show (if p r = true then cmb W B sk ek tr r else 0) = (if p r = true then W r else 0)
  rw [cmb_le h])
theorem faS_cmb {p : Nat → Bool} {v : Nat} : faS (cmb W B sk ek tr) p v = faS W p v := sg_congr 40 (fun r _ h => by
  show (if p r = true then cmb W B sk ek tr r * dst v r else 0) = (if p r = true then W r * dst v r else 0)
  rw [cmb_le h])
theorem giS_cmb {p : Nat → Bool} {fa : Nat} : giS (cmb W B sk ek tr) p fa = giS W p fa := by
  unfold giS; simp only [faS_cmb]
theorem meS_cmb {t : Nat → Nat → Nat} {p : Nat → Bool} {v : Nat} : meS t (cmb W B sk ek tr) p v = meS t W p v := sz_congr 9 (fun k _ => by rw [wtS_cmb])
theorem fbS_cmb {t : Nat → Nat → Nat} {p : Nat → Bool} {fa v : Nat} : fbS t (cmb W B sk ek tr) p fa v = fbS t W p fa v := sz_congr 9 (fun k _ => by rw [faS_cmb, giS_cmb])
theorem msI_cmb {t : Nat → Nat → Nat} {p : Nat → Bool} {bb : Nat} : msI t (cmb W B sk ek tr) p bb = msI t W p bb := by
  funext v; unfold msI; rw [meS_cmb]
theorem bsI_cmb {t : Nat → Nat → Nat} {p : Nat → Bool} {bb : Nat} : bsI t (cmb W B sk ek tr) p bb = bsI t W p bb := by
  unfold bsI; rw [msI_cmb]
theorem mvN_cmb {t : Nat → Nat → Nat} {p : Nat → Bool} {bb v : Nat} : mvN t (cmb W B sk ek tr) p bb v = mvN t W p bb v := by
  unfold mvN; rw [meS_cmb]
theorem midS_cmb : midS (cmb W B sk ek tr) = midS W := by
  have e : ∀ r, r ≤ 40 → sg (cmb W B sk ek tr) r = sg W r := fun r hr => sg_congr r (fun j _ h => cmb_le (by omega))
  have key : ∀ n i, 1 ≤ i → n + i = 41 → ff (fun r => decide (sg W 40 ≤ 2 * sg (cmb W B sk ek tr) r)) n i = ff (fun r => decide (sg W 40 ≤ 2 * sg W r)) n i := by
    intro n
    induction n with
    | zero => intro i _ _; rfl
    | succ n ih => intro i h1 h2; simp only [ff, e i (by omega), ih (i + 1) (by omega) (by omega)]
  unfold midS; rw [sg_cmb, key 40 1 (by omega) (by omega)]
theorem cmb_42 : cmb W B sk ek tr 42 = B 1 := rfl
theorem cmb_43 : cmb W B sk ek tr 43 = B 2 := rfl
theorem cmb_B {k : Nat} (h : k < 5) : cmb W B sk ek tr (41 + k) = B k := by
  unfold cmb; rw [if_neg (by omega), if_pos (by omega)]; congr 1; omega
theorem cnt_B {x : Int32} (h : 3 ≤ x.toInt ∧ x.toInt ≤ 7) : cmb W B sk ek tr (41 + (x.toNatClampNeg - 3)) = B (x.toNatClampNeg - 3) :=
  cmb_B (by have : x.toNatClampNeg ≤ 7 := by show x.toInt.toNat ≤ 7; omega
            omega)
theorem mk_W {c k v : Nat} (h : c = 0 → k ≤ 40) : (if c = 0 then updN (cmb W B sk ek tr) k v else cmb W B sk ek tr) = cmb (if c = 0 then updN W k v else W) B sk ek tr := by
  split
  · next e => exact upd_W (h e)
  · rfl
theorem mk_B {c k v : Nat} (h : c = 0 → k < 5) : (if c = 0 then updN (cmb W B sk ek tr) (41 + k) v else cmb W B sk ek tr) = cmb W (if c = 0 then updN B k v else B) sk ek tr := by
  split
  · next e => exact upd_B (h e) rfl
  · rfl
end LST
theorem cd_0 {y : Int32} {lo hi : Nat} (h : cdC y lo hi = 0) : (lo : Int) ≤ y.toInt ∧ y.toInt ≤ (hi : Int) := by
  unfold cdC at h
  by_cases a : y.toInt < (lo : Int)
  · rw [if_pos a] at h; exact absurd h (by decide)
  · by_cases b : (hi : Int) < y.toInt
    · rw [if_neg a, if_pos b] at h; exact absurd h (by decide)
    · omega
theorem clamp_le {x : Int32} {n : Nat} (h : x.toInt ≤ (n : Int)) : x.toNatClampNeg ≤ n := by
  show x.toInt.toNat ≤ n; omega
theorem clamp_ge {x : Int32} {n : Nat} (h : (n : Int) ≤ x.toInt) : n ≤ x.toNatClampNeg := by
  show n ≤ x.toInt.toNat; omega
theorem upd_le9 {W : Nat → Nat} {k v M : Nat} (h : ∀ j, W j ≤ M) (hv : v ≤ M) : ∀ j, updN W k v j ≤ M := fun j => by
  simp only [updN]; split
  · exact hv
  · exact h j
theorem upd_lt {W : Nat → Nat} {k v M : Nat} (h : ∀ j, W j < M) (hv : v < M) : ∀ j, updN W k v j < M := fun j => by
  simp only [updN]; split
  · exact hv
  · exact h j
section XSL
variable {p : Program} {l : Launch} {e : Env} {R : Room} {s : State} {m : MethodId} {args : Array Value} {below : List Frame} {meth : Method} {c : Code} {H : Heap} {locs : List Loc} {cells slots : Nat} {Q : State → Prop} {cc : ByteArray} {nL : Nat} {Ts : List Cond} {own : String} {rt : Option FieldType} {g : EE} {A : Nat → Prop} {ws : va_W} {pc : Nat} {ls : Array Slot} {rest : List Value}
theorem xsld (F : Fx p s m args meth c cc nL Ts own rt g A) (hS : va_S A s.heap H locs) {b L : Nat} {xs : Nat → Int32} (hX9 : va_X b L xs s s.heap) (hbl : b < s.heap.size) (hbA : ¬ A b) {k : Nat} (hk : k < L) (hL : L ≤ 2560) (hdg : decode cc pc = .ok (.iaload, 1)) (kk : W p l e R s m args below meth c H locs cells slots Q (F0 m (pc + 1) ls (.int (xs k) :: rest))) : W p l e R s m args below meth c H locs cells slots Q (F0 m pc ls (.int (nI k) :: .ref b :: rest)) := by
  obtain ⟨hx, hb, hml, hown, hts, hK, hX, hA, hr, hlocks⟩ := F
  refine va_sld hx hb hX9 hbl hbA hS (vp_in_nI hk (by omega)) hdg (sti ?_ kk)
  rw [nI_clamp (by omega)]
theorem xslen (F : Fx p s m args meth c cc nL Ts own rt g A) (hS : va_S A s.heap H locs) {b L : Nat} {xs : Nat → Int32} (hX9 : va_X b L xs s s.heap) (hbl : b < s.heap.size) (hbA : ¬ A b) (hdg : decode cc pc = .ok (.arraylength, 1)) (kk : W p l e R s m args below meth c H locs cells slots Q (F0 m (pc + 1) ls (.int (nI L) :: rest))) : W p l e R s m args below meth c H locs cells slots Q (F0 m pc ls (.ref b :: rest)) := by
  obtain ⟨hx, hb, hml, hown, hts, hK, hX, hA, hr, hlocks⟩ := F
  exact va_slen hx hb hX9 hbl hbA hS hdg kk
end XSL
theorem sub5 {i L : Nat} (hi : i ≤ 3000) (hL : L ≤ 3000) : nI L - nI 5 < nI i ↔ L < i + 5 := by
  have e : nI L - nI 5 = Int32.ofInt ((L : Int) - 5) := (Int32.ofInt_sub (L : Int) (5 : Int)).symm
  rw [e, Int32.lt_iff_toInt_lt, Int32.toInt_ofInt_of_le (by omega) (by omega), nI_toInt (by omega)]
  omega
theorem rsp_c {k : Nat} {v v' : Int32} (h : k = 0 → v = v') : rsp k v = rsp k v' := by
  by_cases e : k = 0
  · rw [h e]
  · unfold rsp; rw [if_neg e, if_neg e]
section MKS
variable {W B : Nat → Nat} {sk ek tr c k v : Nat} {x y : Int32}
theorem make_0 (h : (if ¬ (1 ≤ x.toInt ∧ x.toInt ≤ 40) then 1 else if y.toInt < 0 then 4 else if 9 < y.toInt then 6 else 0) = 0) : (1 ≤ x.toInt ∧ x.toInt ≤ 40) ∧ 0 ≤ y.toInt ∧ y.toInt ≤ 9 := by
  revert h
  (repeat' split) <;> intro h <;> omega
theorem likely_0 (h : (if (1 ≤ x.toInt ∧ x.toInt ≤ 40) then 0 else 1) = 0) : 1 ≤ x.toInt ∧ x.toInt ≤ 40 := by
  revert h
  (repeat' split) <;> intro h <;> omega
theorem set_0 (h : (if x.toInt < 0 ∨ 5 ≤ x.toInt then 2 else cdC y (leastN x.toNatClampNeg) (greatN x.toNatClampNeg)) = 0) : x.toNatClampNeg < 5 ∧ (leastN x.toNatClampNeg ≤ y.toNatClampNeg ∧ y.toNatClampNeg ≤ greatN x.toNatClampNeg) := by
  by_cases a : x.toInt < 0 ∨ 5 ≤ x.toInt
  · rw [if_pos a] at h; exact absurd h (by decide)
  · rw [if_neg a] at h
    have := cd_0 h
    exact ⟨by show x.toInt.toNat < 5; omega, clamp_ge this.1, clamp_le this.2⟩
theorem kind_0 (h : (if (x.toInt = 0 ∧ 0 ≤ y.toInt ∧ y.toInt ≤ 3) ∨ (x.toInt = 1 ∧ 0 ≤ y.toInt ∧ y.toInt ≤ 4) then 0 else 2) = 0) : (x.toInt = 0 ∧ y.toNatClampNeg ≤ 3) ∨ (x.toInt = 1 ∧ y.toNatClampNeg ≤ 4) := by
  by_cases a : (x.toInt = 0 ∧ 0 ≤ y.toInt ∧ y.toInt ≤ 3) ∨ (x.toInt = 1 ∧ 0 ≤ y.toInt ∧ y.toInt ≤ 4)
  · rcases a with a | a
    · exact Or.inl ⟨a.1, clamp_le a.2.2⟩
    · exact Or.inr ⟨a.1, clamp_le a.2.2⟩
  · rw [if_neg a] at h; exact absurd h (by decide)
theorem letter_0 {tn : Nat} (h : (if x.toInt < 0 then 4 else if 255 < x.toInt ∨ tn = 96 then 6 else 0) = 0) : 0 ≤ x.toInt ∧ x.toInt ≤ 255 ∧ tn ≠ 96 := by
  revert h
  (repeat' split) <;> intro h <;> omega
theorem row_0 {rn : Nat} (h : (if x.toInt < 0 then 4 else if 99 < x.toInt ∨ rn = 12 then 6 else 0) = 0) : 0 ≤ x.toInt ∧ x.toInt ≤ 99 ∧ rn ≠ 12 := by
  revert h
  (repeat' split) <;> intro h <;> omega
theorem upd_c9 {M : Nat} (hW : ∀ j, W j ≤ M) (h : c = 0 → v ≤ M) : ∀ j, (if c = 0 then updN W k v else W) j ≤ M := by
  split
  · next e => exact upd_le9 hW (h e)
  · exact hW
theorem upd_cl {M : Nat} (hW : ∀ j, W j < M) (h : c = 0 → v < M) : ∀ j, (if c = 0 then updN W k v else W) j < M := by
  split
  · next e => exact upd_lt hW (h e)
  · exact hW
theorem upd_c0 (h0 : W 0 = 0) (h : c = 0 → 1 ≤ k) : (if c = 0 then updN W k v else W) 0 = 0 := by
  split
  · next e => rw [updN_ne (by have := h e; omega)]; exact h0
  · exact h0
theorem okB_c (hB : okB B) (h : c = 0 → k < 5 ∧ (leastN k ≤ v ∧ v ≤ greatN k)) : okB (if c = 0 then updN B k v else B) := by
  split
  · next e => exact okB_upd hB (h e).2 (h e).1
  · exact hB
theorem mk_K (h : c = 0 → x.toInt = 0 ∨ x.toInt = 1) : (if c = 0 then (if x.toInt = 0 then updN (cmb W B sk ek tr) 46 v else updN (cmb W B sk ek tr) 47 v) else cmb W B sk ek tr) = cmb W B (if c = 0 ∧ x.toInt = 0 then v else sk) (if c = 0 ∧ x.toInt = 1 then v else ek) tr := by
  by_cases e : c = 0
  · rw [if_pos e]
    rcases h e with h1 | h1
    · rw [if_pos h1, if_pos ⟨e, h1⟩, if_neg (fun z => by omega), upd_46]
    · rw [if_neg (by omega), if_neg (fun z => by omega), if_pos ⟨e, h1⟩, upd_47]
  · rw [if_neg e, if_neg (fun z => e z.1), if_neg (fun z => e z.1)]
theorem mk_T {P : Nat → Bool} : (if c = 0 then updN (cutN (cmb W B sk ek tr) P 40) 48 (tr + 1) else cmb W B sk ek tr) = cmb (if c = 0 then cutN W P 40 else W) B sk ek (if c = 0 then tr + 1 else tr) := by
  by_cases e : c = 0
  · rw [if_pos e, if_pos e, if_pos e, cut_cmb, upd_48]
  · rw [if_neg e, if_neg e, if_neg e]
theorem cut_c9 {P : Nat → Bool} (hW : ∀ j, W j ≤ 9) : ∀ j, (if c = 0 then cutN W P 40 else W) j ≤ 9 := by
  split
  · exact cut_le9 hW
  · exact hW
theorem cut_c0 {P : Nat → Bool} (h0 : W 0 = 0) : (if c = 0 then cutN W P 40 else W) 0 = 0 := by
  split
  · exact cut_z.trans h0
  · exact h0
theorem tr_0 {A C : Prop} [Decidable A] [Decidable C] (ht : tr ≤ 99) (h : (if A then 1 else if C then 3 else if tr = 99 then 6 else 0) = 0) : tr + 1 ≤ 99 := by
  by_cases a : A
  · rw [if_pos a] at h; exact absurd h (by decide)
  · rw [if_neg a] at h
    by_cases b : C
    · rw [if_pos b] at h; exact absurd h (by decide)
    · rw [if_neg b] at h
      by_cases d : tr = 99
      · rw [if_pos d] at h; exact absurd h (by decide)
      · omega
theorem mk_O {Wk Bk S2 : Nat → Nat} {skk ekk trk ik : Nat} (h : ik ≠ 0 → S2 = cmb Wk Bk skk ekk trk) : (if ik = 0 then cmb W B sk ek tr else S2) = cmb (if ik = 0 then W else Wk) (if ik = 0 then B else Bk) (if ik = 0 then sk else skk) (if ik = 0 then ek else ekk) (if ik = 0 then tr else trk) := by
  by_cases e : ik = 0
  · simp only [if_pos e]
  · simp only [if_neg e]; exact h e
theorem ite_p {α : Type} {P : α → Prop} {C : Prop} [Decidable C] {a b : α} (ha : P a) (hb : P b) : P (if C then a else b) := by
  split <;> assumption
theorem ite_c {α : Type} {P : α → Prop} {C : Prop} [Decidable C] {a b : α} (ha : C → P a) (hb : P b) : P (if C then a else b) := by
  split
  · next h => exact ha h
  · exact hb
end MKS
