/-! ===== the literals: rows, calls, what they hold ===== -/
def bytN : List (List Nat) := [[48, 48, 48, 48, 48, 59], [48, 59], [115, 48, 59], [101, 48, 59], [48, 48, 48, 48, 59], [48, 48, 48, 59], [], [97, 100, 104, 98], [101, 119, 100, 115, 99]]
def fb (i k : Nat) : Nat := (bytN.getD i []).getD k 0
def ln (i : Nat) : Nat := lenS.getD i 0
theorem fb_b : ∀ i, i < 9 → ∀ k, k < 6 → fb i k < 128 := by decide +kernel
theorem ln_b : ∀ i, i < 9 → ln i ≤ 6 := by decide +kernel
theorem fb_byt : ∀ i, i < 9 → ∀ k, k < 6 → (bytS.getD i []).getD k 0 = nI (fb i k) := by decide +kernel
theorem fb_and : ∀ i, i < 9 → ∀ k, k < 6 → (bytS.getD i []).getD k 0 &&& nI 255 = nI (fb i k) := by decide +kernel
theorem i2c_d : ∀ c, c < 256 → ((nI c).toUInt32 % 65536).toInt32 = nI c := by decide +kernel
theorem i2b_d : ∀ c, c < 256 → (c < 128 ∧ (nI c).toInt8.toInt32 = nI c) ∨ (128 ≤ c ∧ (nI c).toInt8.toInt32 < 0) := by decide +kernel
theorem char_n {c : Nat} (h : c < 256) : narrow .char (.int (nI c)) = .int (nI c) := (pk_charN (by omega)).1
theorem byte_eq {i k c : Nat} (hi : i < 9) (hk : k < 6) (hc : c < 256) : (bytS.getD i []).getD k 0 = (nI c).toInt8.toInt32 ↔ fb i k = c := by
  have h1 := fb_b i hi k hk
  rw [fb_byt i hi k hk]
  rcases i2b_d c hc with ⟨h2, h3⟩ | ⟨h2, h3⟩
  · rw [h3]; exact nI_eq (by omega) (by omega)
  · constructor
    · intro q
      rw [← q] at h3
      exact absurd h3 (nI_pos (by omega))
    · intro q; omega
theorem shr_0 (n : Nat) : nI n >>> (nI 0 &&& 31) = nI n := by
  have e : (nI 0 &&& 31 : Int32) = 0 := by decide
  rw [e]
  apply Int32.toBitVec_inj.mp
  rw [Int32.toBitVec_shiftRight]
  simp
/-- the first of the n from i on with f k = c, else the end -/
def ixN (f : Nat → Nat) (c : Nat) : Nat → Nat → Nat
  | 0, i => i
  | d + 1, i => if f i = c then i else ixN f c d (i + 1)
theorem ixN_le (f : Nat → Nat) (c : Nat) : ∀ d i, ixN f c d i ≤ i + d
  | 0, i => Nat.le_refl i
  | d + 1, i => by
    have := ixN_le f c d (i + 1)
    simp only [ixN]; split <;> omega
theorem ix_no {f : Nat → Nat} {c n i : Nat} (hi : i < n) (h : f i ≠ c) : ixN f c (n - i) i = ixN f c (n - (i + 1)) (i + 1) := by
  rw [show n - i = (n - (i + 1)) + 1 by omega]; simp only [ixN]; rw [if_neg h]
theorem ix_yes {f : Nat → Nat} {c n i : Nat} (hi : i < n) (h : f i = c) : ixN f c (n - i) i = i := by
  rw [show n - i = (n - (i + 1)) + 1 by omega]; simp only [ixN]; rw [if_pos h]
theorem ix_end {f : Nat → Nat} {c n i : Nat} (hi : n ≤ i) : ixN f c (n - i) i = i := by
  rw [show n - i = 0 by omega]; rfl
def ixJ (f : Nat → Nat) (c n : Nat) : Int32 := if ixN f c n 0 < n then nI (ixN f c n 0) else -1
section SRW
variable {p : Program} {l : Launch} {e : Env} {R : Room} {s : State} {m : MethodId} {args : Array Value} {below : List Frame} {meth : Method} {c : Code} {H : Heap} {locs : List Loc} {cells slots : Nat} {Q : State → Prop} {cc : ByteArray} {nL : Nat} {Ts : List Cond} {own : String} {rt : Option FieldType} {g : EE} {A : Nat → Prop} {ws : va_W} {pc : Nat} {ls : Array Slot} {rest : List Value}
theorem xsV (F : Fx p s m args meth c cc nL Ts own rt g A) (hS : va_S A s.heap H locs) {i index : Nat} (hi : i < 9) (hlk : Cond.fieldLink own index "java/lang/String" "value" "[B" ∈ Ts) (hdg : decode cc pc = .ok (.getfield index, 3)) (kk : W p l e R s m args below meth c H locs cells slots Q (F0 m (pc + 3) ls (.ref (eV g i) :: rest))) : W p l e R s m args below meth c H locs cells slots Q (F0 m pc ls (.ref (eK g i) :: rest)) := by
  obtain ⟨hx, hb, hml, hown, hts, hK, hX, hA, hr, hlocks⟩ := F
  exact vk_getf hx hb (hX.2.2.2.2.2.2.1.1 i hi).2.2.1 hS hown (hts _ hlk) (fun _ h => h) hdg kk
theorem xsC (F : Fx p s m args meth c cc nL Ts own rt g A) (hS : va_S A s.heap H locs) {i index : Nat} (hi : i < 9) (hlk : Cond.fieldLink own index "java/lang/String" "coder" "B" ∈ Ts) (hdg : decode cc pc = .ok (.getfield index, 3)) (kk : W p l e R s m args below meth c H locs cells slots Q (F0 m (pc + 3) ls (.int (nI 0) :: rest))) : W p l e R s m args below meth c H locs cells slots Q (F0 m pc ls (.ref (eK g i) :: rest)) := by
  obtain ⟨hx, hb, hml, hown, hts, hK, hX, hA, hr, hlocks⟩ := F
  exact vk_getf hx hb (hX.2.2.2.2.2.2.1.1 i hi).2.1 hS hown (hts _ hlk) (fun _ h => h) hdg (sti rfl kk)
theorem xsZ (F : Fx p s m args meth c cc nL Ts own rt g A) (hS : va_S A s.heap H locs) {index : Nat} (hlk : Cond.fieldLink own index "java/lang/String" "COMPACT_STRINGS" "Z" ∈ Ts) (hdg : decode cc pc = .ok (.getstatic index, 3)) (kk : W p l e R s m args below meth c H locs cells slots Q (F0 m (pc + 3) ls (.int (nI 1) :: rest))) : W p l e R s m args below meth c H locs cells slots Q (F0 m pc ls (rest)) := by
  obtain ⟨hx, hb, hml, hown, hts, hK, hX, hA, hr, hlocks⟩ := F
  exact va_gets hx hb hX.2.2.2.2.2.1 hS hown (hts _ hlk) (fun _ h => h) hdg (sti rfl kk)
theorem xsF (F : Fx p s m args meth c cc nL Ts own rt g A) (hS : va_S A s.heap H locs) {index : Nat} (hlk : Cond.fieldLink own index "jdk/internal/util/Preconditions" "SIOOBE_FORMATTER" "Ljava/util/function/BiFunction;" ∈ Ts) (hdg : decode cc pc = .ok (.getstatic index, 3)) (kk : ∀ v : Value, (v = .null ∨ ∃ t : Nat, v = .ref t) → W p l e R s m args below meth c H locs cells slots Q (F0 m (pc + 3) ls (v :: rest))) : W p l e R s m args below meth c H locs cells slots Q (F0 m pc ls (rest)) := by
  obtain ⟨hx, hb, hml, hown, hts, hK, hX, hA, hr, hlocks⟩ := F
  rcases hX.2.2.2.2.2.2.2.2 with h9 | ⟨t, h9⟩
  · exact va_gets hx hb h9 hS hown (hts _ hlk) (fun _ h => h) hdg (kk _ (Or.inl rfl))
  · exact va_gets hx hb h9 hS hown (hts _ hlk) (fun _ h => h) hdg (kk _ (Or.inr ⟨t, rfl⟩))
theorem xsL (F : Fx p s m args meth c cc nL Ts own rt g A) (hS : va_S A s.heap H locs) {i : Nat} (hi : i < 9) (hdg : decode cc pc = .ok (.arraylength, 1)) (kk : W p l e R s m args below meth c H locs cells slots Q (F0 m (pc + 1) ls (.int (nI (ln i)) :: rest))) : W p l e R s m args below meth c H locs cells slots Q (F0 m pc ls (.ref (eV g i) :: rest)) := by
  obtain ⟨hx, hb, hml, hown, hts, hK, hX, hA, hr, hlocks⟩ := F
  exact va_tlen hx hb (hX.2.2.2.2.2.2.1.1 i hi).2.2.2 hS rfl hdg kk
theorem xsB (F : Fx p s m args meth c cc nL Ts own rt g A) (hS : va_S A s.heap H locs) {i k : Nat} (hi : i < 9) (hk : k < ln i) (hdg : decode cc pc = .ok (.baload, 1)) (kk : W p l e R s m args below meth c H locs cells slots Q (F0 m (pc + 1) ls (.int ((bytS.getD i []).getD k 0) :: rest))) : W p l e R s m args below meth c H locs cells slots Q (F0 m pc ls (.int (nI k) :: .ref (eV g i) :: rest)) := by
  have hl6 := ln_b i hi
  obtain ⟨hx, hb, hml, hown, hts, hK, hX, hA, hr, hlocks⟩ := F
  exact va_tb hx hb (hX.2.2.2.2.2.2.1.1 i hi).2.2.2 hS (vp_in_nI hk (by have h9 : lenS.getD i 0 ≤ 6 := hl6; omega)) (v := .int ((bytS.getD i []).getD k 0)) (by rw [nI_clamp (by omega)]) hdg kk
theorem xsK (F : Fx p s m args meth c cc nL Ts own rt g A) (hown1 : own = RX3) (i : Nat) (hi : i < 9) (hdg : decode cc pc = .ok (.ldc (idxS.getD i 0), 2)) (kk : W p l e R s m args below meth c H locs cells slots Q (F0 m (pc + 2) ls (.ref (eK g i) :: rest))) : W p l e R s m args below meth c H locs cells slots Q (F0 m pc ls (rest)) := by
  subst hown1
  obtain ⟨hx, hb, hml, hown, hts, hK, hX, hA, hr, hlocks⟩ := F
  exact va_ldcS hx hb hown (hX.2.2.2.2.2.2.2.1 i hi) hdg kk
end SRW
section SCA
variable {p : Program} {l : Launch} {e : Env} {R : Room} {s : State} {m : MethodId} {args : Array Value} {below : List Frame} {meth : Method} {c : Code} {H : Heap} {locs : List Loc} {cells slots : Nat} {Q : State → Prop} {cc bytes : ByteArray} {nL : Nat} {Ts : List Cond} {own : String} {rt ret : Option FieldType} {g : EE} {A : Nat → Prop} {ws wc : va_W} {pc : Nat} {ls : Array Slot}
  {y : MethodName} {wy wy' : List Cond} {rm : Room} {mc ms maxL index : Nat} {b : Nat} {As rest st0 : List Value} {C : String} {ci : Nat} {T : u_T} {N : Nat} {fs : List Value}
theorem cKI {post : Int32 → va_W → Prop} (F : Fx p s m args meth c cc nL Ts own rt g A) {i : Nat} (hM : CI l y wy rm g (.ref (eK g i) :: As) wc post 0 0) {n : Nat} (hk : Cal y wy bytes maxL ret n) (hCl : y.cls = "java/lang/String") (hG : GoodIn Ts (wsV own index "java/lang/String" y wy))
    (hrc : rm.cells = 0) (hrs : rm.slots = 0) (hR : rm.frames + 1 ≤ R.frames ∧ 8 + (maxL + 11) + rm.locals ≤ R.locals)
    (hP : va_P (eD g) vwCl ws H) (hD : va_D A ws) (hS : va_S A s.heap H locs) (isC isR : List Nat) (hC : isC.map (fun i => ws[i]?) = wc.map some) (hck : ckL ws.length isC isR = true) (hi : i < 9) (hsz : ls.size = nL) (hst : st0 = As.reverse ++ .ref (eK g i) :: rest) (hn : As.length = n) (hro : (rest.map fun v => v.category).sum ≤ 8) (hdg : decode cc pc = .ok (.invokevirtual index, 3)) (hf : cells ≤ R.cells ∧ slots ≤ R.slots)
    (kk : ∀ (r : Int32) (w1 : va_W) (H1 : Heap) (locs1 : List Loc), post r w1 → va_P (eD g) vwCl (pk ws isR ++ w1) H1 → va_D A (pk ws isR ++ w1) → va_S A s.heap H1 locs1 → W p l e R s m args below meth c H1 locs1 cells slots Q (F0 m (pc + 3) ls (.int r :: rest))) : W p l e R s m args below meth c H locs cells slots Q (F0 m pc ls st0) := by
  obtain ⟨hnc, hnr, hv, hdis⟩ := ckL_ok hck
  obtain ⟨pre, hPc, hFc⟩ := preS F (.ref (eK g i) :: As) hP hD hS isC hnc hC
  obtain ⟨⟨wy2, hw⟩, hd⟩ := hk
  obtain ⟨hx, hb, hml, hown, hts, hK, hX, hA, hr, hlocks⟩ := F
  refine va_calli (va_runV (As := As) (rest := rest) (b := eK g i) (C := "java/lang/String") ⟨hx, hb, hml, hown, hts⟩ (hM H.size) (cwV n hts hG hw hrc hrs ⟨hCl, hd⟩ hR) ⟨wP_blind, vk_recv hX.2.2.2.2.2.2.1 hi hS, pre⟩ rfl hn hsz hst (lv_room hro) hdg hf) hS (fun q _ h => hFc q h) hFc (fun r w1 t H1 locs1 ht hvm hpo hB hz1 hk1 hS1 => ?_)
  obtain ⟨hP2, hD2⟩ := back hP hD isC isR hC (pk_some ws isR hv) hnr hdis hk1 hFc ht hB
  exact kk r w1 H1 locs1 hpo hP2 hD2 hS1
end SCA
