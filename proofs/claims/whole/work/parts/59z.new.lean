/-! ===== making objects and rows ===== -/
section NEW
variable {p : Program} {l : Launch} {e : Env} {R : Room} {s : State} {m : MethodId} {args : Array Value} {below : List Frame} {meth : Method} {c : Code} {H : Heap} {locs : List Loc} {cells slots : Nat} {Q : State → Prop} {cc : ByteArray} {nL : Nat} {Ts : List Cond} {own : String} {rt : Option FieldType} {g : EE} {A : Nat → Prop} {ws : va_W} {pc : Nat} {ls : Array Slot} {rest : List Value}
theorem xnewa (F : Fx p s m args meth c cc nL Ts own rt g A) (hP : va_P (eD g) vwCl ws H) (hD : va_D A ws) (hS : va_S A s.heap H locs) {atype : ArrayType} {ty : FieldType} {cT : ClassId} (t0 : Nat) (ht : (eT g)[t0]? = some (cT, ty)) (hlk : Cond.arrayClass (newarray.typeOf atype) ∈ Ts) (hty : newarray.typeOf atype = ty) (hob : ∀ C, ty ≠ .object C) {N' : Nat} (hN : N' < 2 ^ 31) {a0 : vp_A} (ha : ∀ cA : ClassId, vp_cell cA a0 = arrV cA N' (fun _ => defaultValue ty)) (hbytes : N' * componentBytes ty ≤ 536870912) (hcells : cells + 1 ≤ R.cells) (hslots : slots + N' ≤ R.slots) (hdg : decode cc pc = .ok (.newarray atype, 2))
    (kk : ∀ (q : Nat) (H1 : Heap), va_P (eD g) vwCl (ws ++ [(q, .inl (cT, a0))]) H1 → va_D A (ws ++ [(q, .inl (cT, a0))]) → va_S A s.heap H1 locs → W p l e R s m args below meth c H1 locs (cells + 1) (slots + N') Q (F0 m (pc + 2) ls (.ref q :: rest))) : W p l e R s m args below meth c H locs cells slots Q (F0 m pc ls (.int (nI N') :: rest)) := by
  obtain ⟨hx, hb, hml, hown, hts, hK, hX, hA, hr, hlocks⟩ := F
  refine va_newa hx hb (hts _ hlk) hty hK hP hD hS hA ha (nI_pos hN) (nI_clamp hN) hbytes hcells hslots hdg (fun q cA H1 hK1 hP1 hD1 hS1 => ?_)
  have e1 : va_RA s cT ty := (hK.2 t0 _ ht).2
  have e2 : va_RA s cA ty := (hK1.2 3 (cA, ty) rfl).2
  have e3 : cA = cT := by
    cases ty <;> first | exact absurd rfl (hob _) | exact Option.some.inj (e2.symm.trans e1)
  subst e3
  exact kk q H1 hP1 hD1 hS1
theorem xcast (F : Fx p s m args meth c cc nL Ts own rt g A) (hP : va_P (eD g) vwCl ws H) (hD : va_D A ws) (hS : va_S A s.heap H locs) (q0 : Nat) {a n k x : Nat} {f f' : Nat → Int32} (ha : ws[q0]? = some (a, .inl (eC g, n, .inl f))) (hk : k < n) (hn : n < 2 ^ 31) (hx9 : vp_nar .char (nI x) = nI x) (hf : upd f k (nI x) = f') (hdg : decode cc pc = .ok (.castore, 1))
    (kk : ∀ (H1 : Heap) (locs1 : List Loc), va_P (eD g) vwCl (ws.set q0 (a, .inl (eC g, n, .inl f'))) H1 → va_D A (ws.set q0 (a, .inl (eC g, n, .inl f'))) → va_S A s.heap H1 locs1 → W p l e R s m args below meth c H1 locs1 cells slots Q (F0 m (pc + 1) ls rest)) : W p l e R s m args below meth c H locs cells slots Q (F0 m pc ls (.int (nI x) :: .int (nI k) :: .ref a :: rest)) := by
  obtain ⟨hx, hb, hml, hown, hts, hK, hX, hA, hr, hlocks⟩ := F
  have e : upd f (nI k).toNatClampNeg (vp_nar .char (nI x)) = f' := by rw [nI_clamp (by omega), hx9]; exact hf
  refine va_cast hx hb hK hP hD hS q0 2 ha rfl (vp_in_nI hk hn) hdg ?_
  rw [e]
  exact kk
theorem xobj (F : Fx p s m args meth c cc nL Ts own rt g A) (hsz : ls.size = nL) {idx : Nat} (h1 : Cond.methodLink own idx Lib.objectInit ∈ Ts) (h2 : Cond.instanceMethod Lib.objectInit ∈ Ts) (h3 : Cond.code Lib.objectInit ⟨#[0xb1]⟩ 1 none ∈ Ts) (hfr : 1 ≤ R.frames) (hlo : (rest.map fun v => v.category).sum + 12 ≤ R.locals) {a : Nat} (hdg : decode cc pc = .ok (.invokespecial idx, 3))
    (kk : W p l e R s m args below meth c H locs cells slots Q (F0 m (pc + 3) ls rest)) : W p l e R s m args below meth c H locs cells slots Q (F0 m pc ls (.ref a :: rest)) := by
  obtain ⟨hx, hb, hml, hown, hts, hK, hX, hA, hr, hlocks⟩ := F
  exact W.objInit hx hb hown (hts _ h1) (hts _ h2) (hts _ h3) (g := F0 m pc ls (.ref a :: rest)) rfl (by rw [hml]; exact hsz) rfl hdg hfr (by show 2 * 0 + _ + 12 ≤ R.locals; omega) kk
end NEW
def w0F : Nat → Nat := fillE (fun _ => 0) 1 41 1
def b0F : Nat → Nat := updN (updN (updN (updN (updN (fun _ => 0) 0 5) 1 2) 2 0) 3 5) 4 4
def s0F : Nat → Nat := updN (updN (updN (updN (fillE (fun _ => 0) 1 41 1) 41 5) 42 2) 44 5) 45 4
theorem s0_cmb : cmb w0F b0F 0 0 0 = s0F := by
  funext j
  rcases (show j ≤ 40 ∨ j = 41 ∨ j = 42 ∨ j = 43 ∨ j = 44 ∨ j = 45 ∨ j = 46 ∨ j = 47 ∨ j = 48 ∨ 48 < j by omega) with h | h | h | h | h | h | h | h | h | h
  · rw [cmb_le h]; unfold s0F
    rw [updN_ne (by omega), updN_ne (by omega), updN_ne (by omega), updN_ne (by omega)]; rfl
  · subst h; rfl
  · subst h; rfl
  · subst h; rfl
  · subst h; rfl
  · subst h; rfl
  · subst h; rfl
  · subst h; rfl
  · subst h; rfl
  · unfold s0F
    rw [updN_ne (by omega), updN_ne (by omega), updN_ne (by omega), updN_ne (by omega)]
    unfold cmb fillE
    rw [if_neg (by omega), if_neg (by omega), if_neg (by omega), if_neg (by omega), if_neg (by omega), if_neg (by omega)]
theorem w0_9 : ∀ j, w0F j ≤ 9 := fill_le (fun _ => by omega) (by omega)
theorem b0_ok : okB b0F := ⟨⟨by decide, by decide⟩, ⟨by decide, by decide⟩, by decide, by decide, by decide⟩
