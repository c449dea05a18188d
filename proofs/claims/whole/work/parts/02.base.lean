/-! ===== base: one form of contract for every method; the fixed facts; calls, returns, loops ===== -/
abbrev EE : Type := va_G × (ClassId × ClassId × ClassId) × (Nat × Nat × (Nat → Nat) × (Nat → Nat) × Nat)
def eD (g : EE) : va_G := g.1
def eI (g : EE) : ClassId := g.2.1.1
def eJ (g : EE) : ClassId := g.2.1.2.1
def eC (g : EE) : ClassId := g.2.1.2.2
def eT (g : EE) : List (ClassId × FieldType) := [(eI g, .int), (eJ g, .long), (eC g, .char)]
def eL (g : EE) : Nat := g.2.2.1
def eG (g : EE) : Nat := g.2.2.2.1
def eK (g : EE) : Nat → Nat := g.2.2.2.2.1
def eV (g : EE) : Nat → Nat := g.2.2.2.2.2.1
def eF (g : EE) : Nat := g.2.2.2.2.2.2
def nestW : List Cond := [.methodLinkNest RX4 28 yX1_init RX4, .methodLinkNest RX4 35 yX2_init RX4, .methodLinkNest RX4 42 yX3_init RX4, .methodLinkNest RX0 34 yX4_isSecond RX4, .methodLinkNest RX0 38 yX4_holds RX4, .methodLinkNest RX2 107 yX4_holds RX4, .methodLinkNest RX2 21 yX1_init RX4, .methodLinkNest RX2 33 yX4_isStripKind RX4, .methodLinkNest RX2 56 yX4_isSecond RX4, .methodLinkNest RX2 63 yX4_size RX4, .methodLinkNest RX3 104 yX4_isStripKind RX4, .methodLinkNest RX3 111 yX4_isEyeKind RX4, .methodLinkNest RX3 117 yX4_isSecond RX4, .fieldLinkNest RX0 28 RX4 "LEAST" "[I" RX4, .fieldLinkNest RX0 31 RX4 "GREATEST" "[I" RX4]
def isNestW (w : Cond) : Prop := (∃ a i x h, w = .methodLinkNest a i x h) ∨ ∃ a i b n d h, w = .fieldLinkNest a i b n d h
theorem nestW_all : ∀ w ∈ nestW, isNestW w := by
  intro w hw
  simp only [nestW, List.mem_cons, List.not_mem_nil, or_false] at hw
  rcases hw with rfl | rfl | rfl | rfl | rfl | rfl | rfl | rfl | rfl | rfl | rfl | rfl | rfl | rfl | rfl <;> first | exact Or.inl ⟨_, _, _, _, rfl⟩ | exact Or.inr ⟨_, _, _, _, _, _, rfl⟩
def leastN (j : Nat) : Nat := if j = 0 then 2 else if j = 1 then 1 else 0
def greatN (j : Nat) : Nat := if j = 0 then 7 else if j < 3 then 9 else 99
def lenS : List Nat := [6, 2, 3, 3, 5, 4, 0, 4, 5]
def bytS : List (List Int32) := [[48, 48, 48, 48, 48, 59], [48, 59], [115, 48, 59], [101, 48, 59], [48, 48, 48, 48, 59], [48, 48, 48, 59], [], [97, 100, 104, 98], [101, 119, 100, 115, 99]]
def idxS : List Nat := [55, 57, 59, 61, 63, 65, 67, 69, 75]
def txtS : List String := ["00000;", "0;", "s0;", "e0;", "0000;", "000;", "", "adhb", "ewdsc"]
def eX (g : EE) (A : Nat → Prop) (U : State) (H : Heap) : Prop :=
  (∀ w ∈ nestW, va_Nw w U) ∧ va_Z RX4 "LEAST" "[I" (.ref (eL g)) A U H ∧ va_T .int (eL g) 5 (fun j => .int (nI (leastN j))) A U H ∧ va_Z RX4 "GREATEST" "[I" (.ref (eG g)) A U H ∧ va_T .int (eG g) 5 (fun j => .int (nI (greatN j))) A U H ∧ va_Z "java/lang/String" "COMPACT_STRINGS" "Z" (.int 1) A U H ∧ vk_S 9 lenS bytS (eK g) (eV g) A U H ∧ (∀ i, i < 9 → vk_R RX3 (idxS.getD i 0) (txtS.getD i "") (eK g i) U) ∧ va_Zq "jdk/internal/util/Preconditions" "SIOOBE_FORMATTER" "Ljava/util/function/BiFunction;" A U H
theorem eX.go {g : EE} {A B : Nat → Prop} {s U : State} {H : Heap} {locs : List Loc} (h : eX g A s s.heap) (hW : s.WarmedH U.vm) (hS : va_S A s.heap H locs) (hAB : ∀ q, B q → A q) : eX g B U H := by
  obtain ⟨h1, h2, h3, h4, h5, h6, h7, h8, h9⟩ := h
  refine ⟨fun w hw => ?_, ((h2.kept hS.2.1).moved hW.alike).narrow hAB, ((h3.kept hS.2.1).moved hW.alike).narrow hAB, ((h4.kept hS.2.1).moved hW.alike).narrow hAB, ((h5.kept hS.2.1).moved hW.alike).narrow hAB, ((h6.kept hS.2.1).moved hW.alike).narrow hAB, ((h7.kept hS.2.1).moved hW.alike).narrow hAB, fun i hi => (h8 i hi).warm hW, ((h9.kept hS.2.1).moved hW.alike).narrow hAB⟩
  rcases nestW_all w hw with ⟨a, i, x, hh, rfl⟩ | ⟨a, i, b, n, d, hh, rfl⟩
  · exact va_Nw.warmM hW (h1 _ hw)
  · exact va_Nw.warmF hW (h1 _ hw)
theorem eX.same {g : EE} {A : Nat → Prop} {u U : State} {H : Heap} (hv : U.vm = u.vm) (h : eX g A u H) : eX g A U H := by
  obtain ⟨h1, h2, h3, h4, h5, h6, h7, h8, h9⟩ := h
  have hal : u.vm.Alike U.vm := by rw [hv]; exact Vm.Alike.refl u.vm
  refine ⟨fun w hw => ?_, h2.moved hal, h3.moved hal, h4.moved hal, h5.moved hal, h6.moved hal, h7.moved hal, fun i hi => (h8 i hi).same hv, h9.moved hal⟩
  rcases nestW_all w hw with ⟨a, i, x, hh, rfl⟩ | ⟨a, i, b, n, d, hh, rfl⟩ <;> exact va_Nw.same rfl hv.symm (h1 _ hw)
theorem eX.nest {g : EE} {A : Nat → Prop} {U : State} {H : Heap} (h : eX g A U H) (k : Nat) {w : Cond} (hk : nestW[k]? = some w) : va_Nw w U := h.1 w (List.mem_of_getElem? hk)
/-- a method's start -/
def wP (g : EE) (ws : va_W) (sz : Nat) (U : State) : Prop := U.heap.size = sz ∧ va_P (eD g) vwCl ws U.heap ∧ va_K (eD g) vwCl (eT g) U ∧ va_D (fun _ => True) ws ∧ eX g (va_A ws sz) U U.heap
def wB (g : EE) (A : Nat → Prop) (w : va_W) (t : State) : Prop := va_P (eD g) vwCl w t.heap ∧ va_D A w
theorem wP_blind {g : EE} {av : List Value} {ws : va_W} {sz : Nat} : FrameBlind (va_Pc av (wP g ws sz)) := by
  intro a U gf mk h
  obtain ⟨h0, h1, h2, h3, h4, h5⟩ := h
  exact ⟨h0, h1, h2, va_K.moved (u := U) (U := U.calling gf mk a) (Vm.Alike.refl U.vm) h3, h4, (show eX g (va_A ws sz) (U.calling gf mk a) U.heap from eX.same (u := U) (U := U.calling gf mk a) rfl h5)⟩
/-- the contracts: any size of the heap; the world behind it is part of what 'post' tells -/
def CI (l : Launch) (y : MethodName) (wy : List Cond) (rm : Room) (g : EE) (av : List Value) (ws : va_W) (post : Int32 → va_W → Prop) (mc ms : Nat) : Prop := ∀ sz, Met l y wy rm (va_Pc av (wP g ws sz)) (va_Qi post (wB g (va_A ws sz)) (va_A ws sz)) mc ms (va_A ws sz)
def CL (l : Launch) (y : MethodName) (wy : List Cond) (rm : Room) (g : EE) (av : List Value) (ws : va_W) (post : Int64 → va_W → Prop) (mc ms : Nat) : Prop := ∀ sz, Met l y wy rm (va_Pc av (wP g ws sz)) (va_Ql post (wB g (va_A ws sz)) (va_A ws sz)) mc ms (va_A ws sz)
def CV (l : Launch) (y : MethodName) (wy : List Cond) (rm : Room) (g : EE) (av : List Value) (ws : va_W) (post : va_W → Prop) (mc ms : Nat) : Prop := ∀ sz, Met l y wy rm (va_Pc av (wP g ws sz)) (va_Qv post (wB g (va_A ws sz)) (va_A ws sz)) mc ms (va_A ws sz)
def CR (l : Launch) (y : MethodName) (wy : List Cond) (rm : Room) (g : EE) (av : List Value) (ws : va_W) (post : Nat → va_W → Prop) (mc ms : Nat) : Prop := ∀ sz, Met l y wy rm (va_Pc av (wP g ws sz)) (va_Qr (S := va_W × Nat) (fun u => post u.2 u.1) (fun u a t => wB g (va_A ws sz) u.1 t ∧ a = u.2) (va_A ws sz)) mc ms (va_A ws sz)
/-- what stands through a method's body -/
def Fx (p : Program) (s : State) (m : MethodId) (args : Array Value) (meth : Method) (c : Code) (cc : ByteArray) (nL : Nat) (Ts : List Cond) (own : String) (rt : Option FieldType) (g : EE) (A : Nat → Prop) : Prop :=
  p.tables.exec = Jvm.exec ∧ c.code = cc ∧ c.maxLocals = nL ∧ s.vm.findClass own = some m.cls ∧ (∀ w ∈ Ts, w.before args s = true) ∧ va_K (eD g) vwCl (eT g) s ∧ eX g A s s.heap ∧ (∀ q, s.heap.size ≤ q → A q) ∧ meth.sig.returnType = rt ∧ meth.locks = false
section BEN
variable {l : Launch} {y : MethodName} {wy wy' : List Cond} {rm : Room} {g : EE} {av : List Value} {ws : va_W} {mc ms : Nat} {cc : ByteArray} {maxL : Nat} {ret : Option FieldType}
theorem ctGo {Qc : (Nat → Prop) → Array Value → State → Outcome → State → Prop} (hy : plainName y.cls = true) (hw : wy = Cond.code y cc maxL ret :: wy') (hn : (lg_sl av).length ≤ maxL)
    (body : ∀ (p : Program) (e : Env) (s : State) (m : MethodId) (below : List Frame) (meth : Method) (c : Code) (A : Nat → Prop) (ls : Array Slot), Fx p s m av.toArray meth c cc maxL wy y.cls ret g A → meth.name = y.name → va_P (eD g) vwCl ws s.heap → va_D A ws → va_S A s.heap s.heap [] → lv_has ls maxL (lv_args 0 av) →
      W p l e rm s m av.toArray below meth c s.heap [] 0 0 (MQ below (Qc A) av.toArray s mc ms A) (F0 m 0 ls [])) (sz : Nat) : Met l y wy rm (va_Pc av (wP g ws sz)) (Qc (va_A ws sz)) mc ms (va_A ws sz) := by
  refine Met.ofW (cc := cc) (maxL := maxL) (ret := ret) hy hw ?_
  intro p e s m args below meth c s₁ B hml hv
  obtain ⟨rfl, rfl, hP, hK, hD0, hX⟩ := hv
  have hD := hD0.self (sz := s.heap.size)
  have hl := lv_entry av (n := maxL) hn
  rw [lg_entry_eq]
  exact body p e s m below meth c (va_A ws s.heap.size) _ ⟨B.exec, B.bytes, hml, findClass_of_methodNamed B.named, atoms_spec (ws := wy) B.pre, hK, hX, fun q h => Or.inr h, B.returns, B.notSynchronized⟩ (name_of_methodNamed B.named B.method).1 hP hD va_S.rf hl
theorem ctI {post : Int32 → va_W → Prop} (hy : plainName y.cls = true) (hw : wy = Cond.code y cc maxL ret :: wy') (hn : (lg_sl av).length ≤ maxL)
    (body : ∀ (p : Program) (e : Env) (s : State) (m : MethodId) (below : List Frame) (meth : Method) (c : Code) (A : Nat → Prop) (ls : Array Slot), Fx p s m av.toArray meth c cc maxL wy y.cls ret g A → meth.name = y.name → va_P (eD g) vwCl ws s.heap → va_D A ws → va_S A s.heap s.heap [] → lv_has ls maxL (lv_args 0 av) →
      W p l e rm s m av.toArray below meth c s.heap [] 0 0 (MQ below (va_Qi post (wB g A) A) av.toArray s mc ms A) (F0 m 0 ls [])) : CI l y wy rm g av ws post mc ms := fun sz => ctGo (Qc := fun A => va_Qi post (wB g A) A) hy hw hn body sz
theorem ctL {post : Int64 → va_W → Prop} (hy : plainName y.cls = true) (hw : wy = Cond.code y cc maxL ret :: wy') (hn : (lg_sl av).length ≤ maxL)
    (body : ∀ (p : Program) (e : Env) (s : State) (m : MethodId) (below : List Frame) (meth : Method) (c : Code) (A : Nat → Prop) (ls : Array Slot), Fx p s m av.toArray meth c cc maxL wy y.cls ret g A → meth.name = y.name → va_P (eD g) vwCl ws s.heap → va_D A ws → va_S A s.heap s.heap [] → lv_has ls maxL (lv_args 0 av) →
      W p l e rm s m av.toArray below meth c s.heap [] 0 0 (MQ below (va_Ql post (wB g A) A) av.toArray s mc ms A) (F0 m 0 ls [])) : CL l y wy rm g av ws post mc ms := fun sz => ctGo (Qc := fun A => va_Ql post (wB g A) A) hy hw hn body sz
theorem ctV {post : va_W → Prop} (hy : plainName y.cls = true) (hw : wy = Cond.code y cc maxL ret :: wy') (hn : (lg_sl av).length ≤ maxL)
    (body : ∀ (p : Program) (e : Env) (s : State) (m : MethodId) (below : List Frame) (meth : Method) (c : Code) (A : Nat → Prop) (ls : Array Slot), Fx p s m av.toArray meth c cc maxL wy y.cls ret g A → meth.name = y.name → va_P (eD g) vwCl ws s.heap → va_D A ws → va_S A s.heap s.heap [] → lv_has ls maxL (lv_args 0 av) →
      W p l e rm s m av.toArray below meth c s.heap [] 0 0 (MQ below (va_Qv post (wB g A) A) av.toArray s mc ms A) (F0 m 0 ls [])) : CV l y wy rm g av ws post mc ms := fun sz => ctGo (Qc := fun A => va_Qv post (wB g A) A) hy hw hn body sz
theorem ctR {post : Nat → va_W → Prop} (hy : plainName y.cls = true) (hw : wy = Cond.code y cc maxL ret :: wy') (hn : (lg_sl av).length ≤ maxL)
    (body : ∀ (p : Program) (e : Env) (s : State) (m : MethodId) (below : List Frame) (meth : Method) (c : Code) (A : Nat → Prop) (ls : Array Slot), Fx p s m av.toArray meth c cc maxL wy y.cls ret g A → meth.name = y.name → va_P (eD g) vwCl ws s.heap → va_D A ws → va_S A s.heap s.heap [] → lv_has ls maxL (lv_args 0 av) →
      W p l e rm s m av.toArray below meth c s.heap [] 0 0 (MQ below (va_Qr (S := va_W × Nat) (fun u => post u.2 u.1) (fun u a t => wB g A u.1 t ∧ a = u.2) A) av.toArray s mc ms A) (F0 m 0 ls [])) : CR l y wy rm g av ws post mc ms := fun sz => ctGo (Qc := fun A => va_Qr (S := va_W × Nat) (fun u => post u.2 u.1) (fun u a t => wB g A u.1 t ∧ a = u.2) A) hy hw hn body sz
end BEN
section BRT
variable {p : Program} {l : Launch} {e : Env} {R : Room} {s : State} {m : MethodId} {args : Array Value} {below : List Frame} {meth : Method} {c : Code} {H : Heap} {locs : List Loc} {cells slots : Nat} {cc : ByteArray} {nL : Nat} {Ts : List Cond} {own : String} {rt : Option FieldType} {g : EE} {A : Nat → Prop} {ws : va_W} {pc : Nat} {ls : Array Slot}
theorem rtI (F : Fx p s m args meth c cc nL Ts own (some .int) g A) {post : Int32 → va_W → Prop} {v : Int32} (hP : va_P (eD g) vwCl ws H) (hD : va_D A ws) (hS : va_S A s.heap H locs) (hdg : decode cc pc = .ok (.ireturn, 1)) (hq : post v ws) : W p l e R s m args below meth c H locs cells slots (MQ below (va_Qi post (wB g A) A) args s cells slots A) (F0 m pc ls [.int v]) := by
  obtain ⟨hx, hb, hml, hown, hts, hK, hX, hA, hr, hlocks⟩ := F
  exact W.iret hx hb hr (fun t ht hW => ⟨⟨v, ws, rfl, hq, by rw [ht]; exact hP, hD⟩, hS.F ht⟩) hS.2.2 hdg hlocks
theorem rtZ (F : Fx p s m args meth c cc nL Ts own (some .boolean) g A) {post : Int32 → va_W → Prop} {v : Int32} (hP : va_P (eD g) vwCl ws H) (hD : va_D A ws) (hS : va_S A s.heap H locs) (hdg : decode cc pc = .ok (.ireturn, 1)) (hn : narrow .boolean (.int v) = .int v) (hq : post v ws) : W p l e R s m args below meth c H locs cells slots (MQ below (va_Qi post (wB g A) A) args s cells slots A) (F0 m pc ls [.int v]) := by
  obtain ⟨hx, hb, hml, hown, hts, hK, hX, hA, hr, hlocks⟩ := F
  exact W.zret hx hb hr hn (fun t ht hW => ⟨⟨v, ws, rfl, hq, by rw [ht]; exact hP, hD⟩, hS.F ht⟩) hS.2.2 hdg hlocks
theorem rtC (F : Fx p s m args meth c cc nL Ts own (some .char) g A) {post : Int32 → va_W → Prop} {v : Int32} (hP : va_P (eD g) vwCl ws H) (hD : va_D A ws) (hS : va_S A s.heap H locs) (hdg : decode cc pc = .ok (.ireturn, 1)) (hn : narrow .char (.int v) = .int v) (hq : post v ws) : W p l e R s m args below meth c H locs cells slots (MQ below (va_Qi post (wB g A) A) args s cells slots A) (F0 m pc ls [.int v]) := by
  obtain ⟨hx, hb, hml, hown, hts, hK, hX, hA, hr, hlocks⟩ := F
  exact W.zret hx hb hr hn (fun t ht hW => ⟨⟨v, ws, rfl, hq, by rw [ht]; exact hP, hD⟩, hS.F ht⟩) hS.2.2 hdg hlocks
theorem rtB (F : Fx p s m args meth c cc nL Ts own (some .byte) g A) {post : Int32 → va_W → Prop} {v : Int32} (hP : va_P (eD g) vwCl ws H) (hD : va_D A ws) (hS : va_S A s.heap H locs) (hdg : decode cc pc = .ok (.ireturn, 1)) (hn : narrow .byte (.int v) = .int v) (hq : post v ws) : W p l e R s m args below meth c H locs cells slots (MQ below (va_Qi post (wB g A) A) args s cells slots A) (F0 m pc ls [.int v]) := by
  obtain ⟨hx, hb, hml, hown, hts, hK, hX, hA, hr, hlocks⟩ := F
  exact W.zret hx hb hr hn (fun t ht hW => ⟨⟨v, ws, rfl, hq, by rw [ht]; exact hP, hD⟩, hS.F ht⟩) hS.2.2 hdg hlocks
theorem rtL (F : Fx p s m args meth c cc nL Ts own (some .long) g A) {post : Int64 → va_W → Prop} {v : Int64} (hP : va_P (eD g) vwCl ws H) (hD : va_D A ws) (hS : va_S A s.heap H locs) (hdg : decode cc pc = .ok (.lreturn, 1)) (hq : post v ws) : W p l e R s m args below meth c H locs cells slots (MQ below (va_Ql post (wB g A) A) args s cells slots A) (F0 m pc ls [.long v]) := by
  obtain ⟨hx, hb, hml, hown, hts, hK, hX, hA, hr, hlocks⟩ := F
  exact W.lret hx hb hr (fun t ht hW => ⟨⟨v, ws, rfl, hq, by rw [ht]; exact hP, hD⟩, hS.F ht⟩) hS.2.2 hdg hlocks
theorem rtV (F : Fx p s m args meth c cc nL Ts own none g A) {post : va_W → Prop} (hP : va_P (eD g) vwCl ws H) (hD : va_D A ws) (hS : va_S A s.heap H locs) (hdg : decode cc pc = .ok (.return_, 1)) (hq : post ws) : W p l e R s m args below meth c H locs cells slots (MQ below (va_Qv post (wB g A) A) args s cells slots A) (F0 m pc ls []) := by
  obtain ⟨hx, hb, hml, hown, hts, hK, hX, hA, hr, hlocks⟩ := F
  exact W.vret hx hb hr (fun t ht hW => ⟨⟨ws, rfl, hq, by rw [ht]; exact hP, hD⟩, hS.F ht⟩) hS.2.2 hdg hlocks
theorem rtR {n : String} (F : Fx p s m args meth c cc nL Ts own (some (.object n)) g A) {post : Nat → va_W → Prop} {v : Nat} (hP : va_P (eD g) vwCl ws H) (hD : va_D A ws) (hS : va_S A s.heap H locs) (hdg : decode cc pc = .ok (.areturn, 1)) (hq : post v ws) : W p l e R s m args below meth c H locs cells slots (MQ below (va_Qr (S := va_W × Nat) (fun u => post u.2 u.1) (fun u a t => wB g A u.1 t ∧ a = u.2) A) args s cells slots A) (F0 m pc ls [.ref v]) := by
  obtain ⟨hx, hb, hml, hown, hts, hK, hX, hA, hr, hlocks⟩ := F
  exact W.aret hx hb hr (Or.inl ⟨n, rfl⟩) (Or.inr ⟨v, rfl⟩) (fun t ht hW => ⟨⟨(ws, v), v, rfl, hq, ⟨by rw [ht]; exact hP, hD⟩, rfl⟩, hS.F ht⟩) hS.2.2 hdg hlocks
end BRT
/-- cells by their places -/
def pk (ws : va_W) (is : List Nat) : va_W := is.filterMap (fun i => ws[i]?)
theorem pk_some : ∀ (ws : va_W) (is : List Nat), is.all (fun i => decide (i < ws.length)) = true → is.map (fun i => ws[i]?) = (pk ws is).map some
  | _, [], _ => rfl
  | ws, i :: is, h => by
    simp only [List.all_cons, Bool.and_eq_true, decide_eq_true_eq] at h
    have ih := pk_some ws is h.2
    have hi : ws[i]? = some (ws[i]'h.1) := List.getElem?_eq_getElem h.1
    simp only [pk, List.map_cons, List.filterMap_cons, hi]
    exact congrArg (fun t => some (ws[i]'h.1) :: t) ih
theorem nx {g : EE} {A : Nat → Prop} {ws ws' : va_W} {H : Heap} (hP : va_P (eD g) vwCl ws H) (hD : va_D A ws) (is : List Nat) (hn : va_nd is = true) (hs : is.map (fun i => ws[i]?) = ws'.map some) : va_P (eD g) vwCl ws' H ∧ va_D A ws' := by
  refine ⟨hP.sub is ?_, hD.sub is hn hs⟩
  have h2 : is.filterMap (fun i => ws[i]?) = (is.map (fun i => ws[i]?)).filterMap id := by rw [List.filterMap_map]; rfl
  rw [h2, hs, List.filterMap_map]
  simp
/-- places: each once, in range, apart -/
def ndB : List Nat → Bool
  | [] => true
  | a :: l => !(l.any (fun b => Nat.beq a b)) && ndB l
def inB (n : Nat) (l : List Nat) : Bool := l.all (fun i => Nat.blt i n)
def disB (a b : List Nat) : Bool := b.all (fun i => !(a.any (fun j => Nat.beq i j)))
def ckL (n : Nat) (isC isR : List Nat) : Bool := ndB isC && (ndB isR && (inB n isR && disB isC isR))
theorem nbeq (a b : Nat) : Nat.beq a b = true ↔ a = b := ⟨fun h => Nat.eq_of_beq_eq_true h, fun h => by subst h; exact Nat.beq_refl a⟩
theorem ndB_ok : ∀ l : List Nat, ndB l = true → va_nd l = true
  | [], _ => rfl
  | a :: l, h => by
    simp only [ndB, Bool.and_eq_true, Bool.not_eq_true'] at h
    simp only [va_nd, Bool.and_eq_true, decide_eq_true_eq]
    refine ⟨fun hm => ?_, ndB_ok l h.2⟩
    have h1 : l.any (fun b => Nat.beq a b) = true := List.any_eq_true.mpr ⟨a, hm, Nat.beq_refl a⟩
    rw [h1] at h
    exact absurd h.1 (by decide)
theorem inB_ok {n : Nat} {l : List Nat} (h : inB n l = true) : l.all (fun i => decide (i < n)) = true := by
  refine List.all_eq_true.mpr fun i hi => ?_
  have h1 := List.all_eq_true.mp h i hi
  exact decide_eq_true (Nat.le_of_ble_eq_true h1)
theorem disB_ok {a b : List Nat} (h : disB a b = true) : b.all (fun i => !a.contains i) = true := by
  refine List.all_eq_true.mpr fun i hi => ?_
  have h1 := List.all_eq_true.mp h i hi
  have h2 : a.contains i = false := by
    cases hc : a.contains i with
    | false => rfl
    | true =>
      have hm := List.contains_iff_mem.mp hc
      have h3 : a.any (fun j => Nat.beq i j) = true := List.any_eq_true.mpr ⟨i, hm, Nat.beq_refl i⟩
      rw [h3] at h1
      exact absurd h1 (by decide)
  rw [h2]; rfl
theorem ckL_ok {n : Nat} {isC isR : List Nat} (h : ckL n isC isR = true) : va_nd isC = true ∧ va_nd isR = true ∧ isR.all (fun i => decide (i < n)) = true ∧ isR.all (fun i => !isC.contains i) = true := by
  simp only [ckL, Bool.and_eq_true] at h
  exact ⟨ndB_ok _ h.1, ndB_ok _ h.2.1, inB_ok h.2.2.1, disB_ok h.2.2.2⟩
/-- a method as callers see it -/
def Cal (y : MethodName) (wy : List Cond) (bytes : ByteArray) (maxL : Nat) (ret : Option FieldType) (n : Nat) : Prop := (∃ wy', wy = Cond.code y bytes maxL ret :: wy') ∧ (y.cls ≠ "java/lang/invoke/MethodHandle" ∧ y.cls ≠ "java/lang/invoke/VarHandle" ∧ (parseMethodDescriptor y.desc).map (fun d => d.parameters.length) = some n)
section BCA
variable {p : Program} {l : Launch} {e : Env} {R : Room} {s : State} {m : MethodId} {args : Array Value} {below : List Frame} {meth : Method} {c : Code} {H : Heap} {locs : List Loc} {cells slots : Nat} {Q : State → Prop} {cc bytes : ByteArray} {nL : Nat} {Ts : List Cond} {own : String} {rt ret : Option FieldType} {g : EE} {A : Nat → Prop} {ws wc : va_W} {pc : Nat} {ls : Array Slot}
  {y : MethodName} {wy wy' : List Cond} {rm : Room} {mc ms maxL index : Nat} {b : Nat} {As rest st0 : List Value} {C : String} {ci : Nat} {T : u_T} {N : Nat} {fs : List Value}
theorem preS (F : Fx p s m args meth c cc nL Ts own rt g A) (av : List Value) (hP : va_P (eD g) vwCl ws H) (hD : va_D A ws) (hS : va_S A s.heap H locs) (isC : List Nat) (hnd : va_nd isC = true) (hC : isC.map (fun i => ws[i]?) = wc.map some) :
    (∀ U : State, U.heap = H → s.WarmedH U.vm → va_Pc av (wP g wc H.size) av.toArray U) ∧ (va_P (eD g) vwCl wc H) ∧ ∀ q, va_A wc H.size q → A q := by
  obtain ⟨hx, hb, hml, hown, hts, hK, hX, hA, hr, hlocks⟩ := F
  obtain ⟨hPc, hDc⟩ := nx hP hD isC hnd hC
  have hFc := va_free (wc := wc) hD hS hA isC hC
  refine ⟨fun U hU hW => ⟨rfl, by rw [hU], by rw [hU]; exact hPc, va_K.moved hW.alike hK, hDc.weaken (fun _ _ _ _ => trivial), ?_⟩, hPc, hFc⟩
  rw [hU]
  exact hX.go hW hS hFc
theorem back {w1 wr : va_W} {H1 : Heap} (hP : va_P (eD g) vwCl ws H) (hD : va_D A ws) (isC isR : List Nat) (hC : isC.map (fun i => ws[i]?) = wc.map some) (hR : isR.map (fun i => ws[i]?) = wr.map some) (hn : va_nd isR = true) (hdis : isR.all (fun i => !isC.contains i) = true)
    (hk : ∀ q : Nat, q < H.size → ¬ va_A wc H.size q → H1[q]? = H[q]?) (hF : ∀ q, va_A wc H.size q → A q) {t : State} (ht : t.heap = H1) (hB : wB g (va_A wc H.size) w1 t) : va_P (eD g) vwCl (wr ++ w1) H1 ∧ va_D A (wr ++ w1) := by
  obtain ⟨hP1, hD1⟩ := hB
  rw [ht] at hP1
  refine va_join hP hD isC isR hC hR hn (fun i hi hc => ?_) hk hF hP1 hD1
  have h1 := List.all_eq_true.mp hdis i hi
  have h2 : isC.contains i = true := List.contains_iff_mem.mpr hc
  rw [h2] at h1
  cases h1
theorem cVI {post : Int32 → va_W → Prop} (F : Fx p s m args meth c cc nL Ts own rt g A) (hM : CI l y wy rm g (.ref b :: As) wc post 0 0) {n : Nat} (hk : Cal y wy bytes maxL ret n) (hCl : y.cls = C) (hG : GoodIn Ts (wsV own index C y wy))
    (hrc : rm.cells = 0) (hrs : rm.slots = 0) (hR : rm.frames + 1 ≤ R.frames ∧ 8 + (maxL + 11) + rm.locals ≤ R.locals)
    (hP : va_P (eD g) vwCl ws H) (hD : va_D A ws) (hS : va_S A s.heap H locs) (isC isR : List Nat) (hC : isC.map (fun i => ws[i]?) = wc.map some) (hck : ckL ws.length isC isR = true) (q0 : Nat) (he : wc[q0]? = some (b, .inr (ci, fs))) (hcl : vwCl[ci]? = some (C, T, N)) (hsz : ls.size = nL) (hst : st0 = As.reverse ++ .ref b :: rest) (hn : As.length = n) (hro : (rest.map fun v => v.category).sum ≤ 8) (hdg : decode cc pc = .ok (.invokevirtual index, 3)) (hf : cells ≤ R.cells ∧ slots ≤ R.slots)
    (kk : ∀ (r : Int32) (w1 : va_W) (H1 : Heap) (locs1 : List Loc), post r w1 → va_P (eD g) vwCl (pk ws isR ++ w1) H1 → va_D A (pk ws isR ++ w1) → va_S A s.heap H1 locs1 → W p l e R s m args below meth c H1 locs1 cells slots Q (F0 m (pc + 3) ls (.int r :: rest))) : W p l e R s m args below meth c H locs cells slots Q (F0 m pc ls st0) := by
  obtain ⟨hnc, hnr, hv, hdis⟩ := ckL_ok hck
  obtain ⟨pre, hPc, hFc⟩ := preS F (.ref b :: As) hP hD hS isC hnc hC
  obtain ⟨⟨wy2, hw⟩, hd⟩ := hk
  obtain ⟨hx, hb, hml, hown, hts, hK, hX, hA, hr, hlocks⟩ := F
  refine va_calli (va_runV (As := As) (rest := rest) (b := b) (C := C) ⟨hx, hb, hml, hown, hts⟩ (hM H.size) (cwV n hts hG hw hrc hrs ⟨hCl, hd⟩ hR) ⟨wP_blind, va_recv hK hPc hcl he, pre⟩ rfl hn hsz hst (lv_room hro) hdg hf) hS (fun q _ h => hFc q h) hFc (fun r w1 t H1 locs1 ht hvm hpo hB hz1 hk1 hS1 => ?_)
  obtain ⟨hP2, hD2⟩ := back hP hD isC isR hC (pk_some ws isR hv) hnr hdis hk1 hFc ht hB
  exact kk r w1 H1 locs1 hpo hP2 hD2 hS1
theorem cVL {post : Int64 → va_W → Prop} (F : Fx p s m args meth c cc nL Ts own rt g A) (hM : CL l y wy rm g (.ref b :: As) wc post 0 0) {n : Nat} (hk : Cal y wy bytes maxL ret n) (hCl : y.cls = C) (hG : GoodIn Ts (wsV own index C y wy))
    (hrc : rm.cells = 0) (hrs : rm.slots = 0) (hR : rm.frames + 1 ≤ R.frames ∧ 8 + (maxL + 11) + rm.locals ≤ R.locals)
    (hP : va_P (eD g) vwCl ws H) (hD : va_D A ws) (hS : va_S A s.heap H locs) (isC isR : List Nat) (hC : isC.map (fun i => ws[i]?) = wc.map some) (hck : ckL ws.length isC isR = true) (q0 : Nat) (he : wc[q0]? = some (b, .inr (ci, fs))) (hcl : vwCl[ci]? = some (C, T, N)) (hsz : ls.size = nL) (hst : st0 = As.reverse ++ .ref b :: rest) (hn : As.length = n) (hro : (rest.map fun v => v.category).sum ≤ 8) (hdg : decode cc pc = .ok (.invokevirtual index, 3)) (hf : cells ≤ R.cells ∧ slots ≤ R.slots)
    (kk : ∀ (r : Int64) (w1 : va_W) (H1 : Heap) (locs1 : List Loc), post r w1 → va_P (eD g) vwCl (pk ws isR ++ w1) H1 → va_D A (pk ws isR ++ w1) → va_S A s.heap H1 locs1 → W p l e R s m args below meth c H1 locs1 cells slots Q (F0 m (pc + 3) ls (.long r :: rest))) : W p l e R s m args below meth c H locs cells slots Q (F0 m pc ls st0) := by
  obtain ⟨hnc, hnr, hv, hdis⟩ := ckL_ok hck
  obtain ⟨pre, hPc, hFc⟩ := preS F (.ref b :: As) hP hD hS isC hnc hC
  obtain ⟨⟨wy2, hw⟩, hd⟩ := hk
  obtain ⟨hx, hb, hml, hown, hts, hK, hX, hA, hr, hlocks⟩ := F
  refine va_calll (va_runV (As := As) (rest := rest) (b := b) (C := C) ⟨hx, hb, hml, hown, hts⟩ (hM H.size) (cwV n hts hG hw hrc hrs ⟨hCl, hd⟩ hR) ⟨wP_blind, va_recv hK hPc hcl he, pre⟩ rfl hn hsz hst (lv_room hro) hdg hf) hS (fun q _ h => hFc q h) hFc (fun r w1 t H1 locs1 ht hvm hpo hB hz1 hk1 hS1 => ?_)
  obtain ⟨hP2, hD2⟩ := back hP hD isC isR hC (pk_some ws isR hv) hnr hdis hk1 hFc ht hB
  exact kk r w1 H1 locs1 hpo hP2 hD2 hS1
theorem cVV {post : va_W → Prop} (F : Fx p s m args meth c cc nL Ts own rt g A) (hM : CV l y wy rm g (.ref b :: As) wc post 0 0) {n : Nat} (hk : Cal y wy bytes maxL ret n) (hCl : y.cls = C) (hG : GoodIn Ts (wsV own index C y wy))
    (hrc : rm.cells = 0) (hrs : rm.slots = 0) (hR : rm.frames + 1 ≤ R.frames ∧ 8 + (maxL + 11) + rm.locals ≤ R.locals)
    (hP : va_P (eD g) vwCl ws H) (hD : va_D A ws) (hS : va_S A s.heap H locs) (isC isR : List Nat) (hC : isC.map (fun i => ws[i]?) = wc.map some) (hck : ckL ws.length isC isR = true) (q0 : Nat) (he : wc[q0]? = some (b, .inr (ci, fs))) (hcl : vwCl[ci]? = some (C, T, N)) (hsz : ls.size = nL) (hst : st0 = As.reverse ++ .ref b :: rest) (hn : As.length = n) (hro : (rest.map fun v => v.category).sum ≤ 8) (hdg : decode cc pc = .ok (.invokevirtual index, 3)) (hf : cells ≤ R.cells ∧ slots ≤ R.slots)
    (kk : ∀ (w1 : va_W) (H1 : Heap) (locs1 : List Loc), post w1 → va_P (eD g) vwCl (pk ws isR ++ w1) H1 → va_D A (pk ws isR ++ w1) → va_S A s.heap H1 locs1 → W p l e R s m args below meth c H1 locs1 cells slots Q (F0 m (pc + 3) ls (rest))) : W p l e R s m args below meth c H locs cells slots Q (F0 m pc ls st0) := by
  obtain ⟨hnc, hnr, hv, hdis⟩ := ckL_ok hck
  obtain ⟨pre, hPc, hFc⟩ := preS F (.ref b :: As) hP hD hS isC hnc hC
  obtain ⟨⟨wy2, hw⟩, hd⟩ := hk
  obtain ⟨hx, hb, hml, hown, hts, hK, hX, hA, hr, hlocks⟩ := F
  refine va_callv (va_runV (As := As) (rest := rest) (b := b) (C := C) ⟨hx, hb, hml, hown, hts⟩ (hM H.size) (cwV n hts hG hw hrc hrs ⟨hCl, hd⟩ hR) ⟨wP_blind, va_recv hK hPc hcl he, pre⟩ rfl hn hsz hst (lv_room hro) hdg hf) hS (fun q _ h => hFc q h) hFc (fun w1 t H1 locs1 ht hvm hpo hB hz1 hk1 hS1 => ?_)
  obtain ⟨hP2, hD2⟩ := back hP hD isC isR hC (pk_some ws isR hv) hnr hdis hk1 hFc ht hB
  exact kk w1 H1 locs1 hpo hP2 hD2 hS1
theorem cSI {post : Int32 → va_W → Prop} (F : Fx p s m args meth c cc nL Ts own rt g A) (hM : CI l y wy rm g As wc post 0 0) {n : Nat} (hk : Cal y wy bytes maxL ret n) (hG : GoodIn Ts (va_wsS own index y wy))
    (hrc : rm.cells = 0) (hrs : rm.slots = 0) (hR : rm.frames + 1 ≤ R.frames ∧ 8 + (maxL + 11) + rm.locals ≤ R.locals)
    (hP : va_P (eD g) vwCl ws H) (hD : va_D A ws) (hS : va_S A s.heap H locs) (isC isR : List Nat) (hC : isC.map (fun i => ws[i]?) = wc.map some) (hck : ckL ws.length isC isR = true) (hsz : ls.size = nL) (hst : st0 = As.reverse ++ rest) (hn : As.length = n) (hro : (rest.map fun v => v.category).sum ≤ 8) (hdg : decode cc pc = .ok (.invokestatic index, 3)) (hf : cells ≤ R.cells ∧ slots ≤ R.slots)
    (kk : ∀ (r : Int32) (w1 : va_W) (H1 : Heap) (locs1 : List Loc), post r w1 → va_P (eD g) vwCl (pk ws isR ++ w1) H1 → va_D A (pk ws isR ++ w1) → va_S A s.heap H1 locs1 → W p l e R s m args below meth c H1 locs1 cells slots Q (F0 m (pc + 3) ls (.int r :: rest))) : W p l e R s m args below meth c H locs cells slots Q (F0 m pc ls st0) := by
  obtain ⟨hnc, hnr, hv, hdis⟩ := ckL_ok hck
  obtain ⟨pre, hPc, hFc⟩ := preS F As hP hD hS isC hnc hC
  obtain ⟨⟨wy2, hw⟩, hd⟩ := hk
  obtain ⟨hx, hb, hml, hown, hts, hK, hX, hA, hr, hlocks⟩ := F
  refine va_calli (va_runS (As := As) (rest := rest) ⟨hx, hb, hml, hown, hts⟩ (hM H.size) (va_cwS n hts hG hw hrc hrs hd hR) ⟨wP_blind, pre⟩ rfl hn hsz hst (lv_room hro) hdg hf) hS (fun q _ h => hFc q h) hFc (fun r w1 t H1 locs1 ht hvm hpo hB hz1 hk1 hS1 => ?_)
  obtain ⟨hP2, hD2⟩ := back hP hD isC isR hC (pk_some ws isR hv) hnr hdis hk1 hFc ht hB
  exact kk r w1 H1 locs1 hpo hP2 hD2 hS1
theorem cSL {post : Int64 → va_W → Prop} (F : Fx p s m args meth c cc nL Ts own rt g A) (hM : CL l y wy rm g As wc post 0 0) {n : Nat} (hk : Cal y wy bytes maxL ret n) (hG : GoodIn Ts (va_wsS own index y wy))
    (hrc : rm.cells = 0) (hrs : rm.slots = 0) (hR : rm.frames + 1 ≤ R.frames ∧ 8 + (maxL + 11) + rm.locals ≤ R.locals)
    (hP : va_P (eD g) vwCl ws H) (hD : va_D A ws) (hS : va_S A s.heap H locs) (isC isR : List Nat) (hC : isC.map (fun i => ws[i]?) = wc.map some) (hck : ckL ws.length isC isR = true) (hsz : ls.size = nL) (hst : st0 = As.reverse ++ rest) (hn : As.length = n) (hro : (rest.map fun v => v.category).sum ≤ 8) (hdg : decode cc pc = .ok (.invokestatic index, 3)) (hf : cells ≤ R.cells ∧ slots ≤ R.slots)
    (kk : ∀ (r : Int64) (w1 : va_W) (H1 : Heap) (locs1 : List Loc), post r w1 → va_P (eD g) vwCl (pk ws isR ++ w1) H1 → va_D A (pk ws isR ++ w1) → va_S A s.heap H1 locs1 → W p l e R s m args below meth c H1 locs1 cells slots Q (F0 m (pc + 3) ls (.long r :: rest))) : W p l e R s m args below meth c H locs cells slots Q (F0 m pc ls st0) := by
  obtain ⟨hnc, hnr, hv, hdis⟩ := ckL_ok hck
  obtain ⟨pre, hPc, hFc⟩ := preS F As hP hD hS isC hnc hC
  obtain ⟨⟨wy2, hw⟩, hd⟩ := hk
  obtain ⟨hx, hb, hml, hown, hts, hK, hX, hA, hr, hlocks⟩ := F
  refine va_calll (va_runS (As := As) (rest := rest) ⟨hx, hb, hml, hown, hts⟩ (hM H.size) (va_cwS n hts hG hw hrc hrs hd hR) ⟨wP_blind, pre⟩ rfl hn hsz hst (lv_room hro) hdg hf) hS (fun q _ h => hFc q h) hFc (fun r w1 t H1 locs1 ht hvm hpo hB hz1 hk1 hS1 => ?_)
  obtain ⟨hP2, hD2⟩ := back hP hD isC isR hC (pk_some ws isR hv) hnr hdis hk1 hFc ht hB
  exact kk r w1 H1 locs1 hpo hP2 hD2 hS1
theorem cSV {post : va_W → Prop} (F : Fx p s m args meth c cc nL Ts own rt g A) (hM : CV l y wy rm g As wc post 0 0) {n : Nat} (hk : Cal y wy bytes maxL ret n) (hG : GoodIn Ts (va_wsS own index y wy))
    (hrc : rm.cells = 0) (hrs : rm.slots = 0) (hR : rm.frames + 1 ≤ R.frames ∧ 8 + (maxL + 11) + rm.locals ≤ R.locals)
    (hP : va_P (eD g) vwCl ws H) (hD : va_D A ws) (hS : va_S A s.heap H locs) (isC isR : List Nat) (hC : isC.map (fun i => ws[i]?) = wc.map some) (hck : ckL ws.length isC isR = true) (hsz : ls.size = nL) (hst : st0 = As.reverse ++ rest) (hn : As.length = n) (hro : (rest.map fun v => v.category).sum ≤ 8) (hdg : decode cc pc = .ok (.invokestatic index, 3)) (hf : cells ≤ R.cells ∧ slots ≤ R.slots)
    (kk : ∀ (w1 : va_W) (H1 : Heap) (locs1 : List Loc), post w1 → va_P (eD g) vwCl (pk ws isR ++ w1) H1 → va_D A (pk ws isR ++ w1) → va_S A s.heap H1 locs1 → W p l e R s m args below meth c H1 locs1 cells slots Q (F0 m (pc + 3) ls (rest))) : W p l e R s m args below meth c H locs cells slots Q (F0 m pc ls st0) := by
  obtain ⟨hnc, hnr, hv, hdis⟩ := ckL_ok hck
  obtain ⟨pre, hPc, hFc⟩ := preS F As hP hD hS isC hnc hC
  obtain ⟨⟨wy2, hw⟩, hd⟩ := hk
  obtain ⟨hx, hb, hml, hown, hts, hK, hX, hA, hr, hlocks⟩ := F
  refine va_callv (va_runS (As := As) (rest := rest) ⟨hx, hb, hml, hown, hts⟩ (hM H.size) (va_cwS n hts hG hw hrc hrs hd hR) ⟨wP_blind, pre⟩ rfl hn hsz hst (lv_room hro) hdg hf) hS (fun q _ h => hFc q h) hFc (fun w1 t H1 locs1 ht hvm hpo hB hz1 hk1 hS1 => ?_)
  obtain ⟨hP2, hD2⟩ := back hP hD isC isR hC (pk_some ws isR hv) hnr hdis hk1 hFc ht hB
  exact kk w1 H1 locs1 hpo hP2 hD2 hS1
theorem cSR {post : Nat → va_W → Prop} (F : Fx p s m args meth c cc nL Ts own rt g A) (hM : CR l y wy rm g As wc post 0 0) {n : Nat} (hk : Cal y wy bytes maxL ret n) (hG : GoodIn Ts (va_wsS own index y wy))
    (hrc : rm.cells = 0) (hrs : rm.slots = 0) (hR : rm.frames + 1 ≤ R.frames ∧ 8 + (maxL + 11) + rm.locals ≤ R.locals)
    (hP : va_P (eD g) vwCl ws H) (hD : va_D A ws) (hS : va_S A s.heap H locs) (isC isR : List Nat) (hC : isC.map (fun i => ws[i]?) = wc.map some) (hck : ckL ws.length isC isR = true) (hsz : ls.size = nL) (hst : st0 = As.reverse ++ rest) (hn : As.length = n) (hro : (rest.map fun v => v.category).sum ≤ 8) (hdg : decode cc pc = .ok (.invokestatic index, 3)) (hf : cells ≤ R.cells ∧ slots ≤ R.slots)
    (kk : ∀ (r : Nat) (w1 : va_W) (H1 : Heap) (locs1 : List Loc), post r w1 → va_P (eD g) vwCl (pk ws isR ++ w1) H1 → va_D A (pk ws isR ++ w1) → va_S A s.heap H1 locs1 → W p l e R s m args below meth c H1 locs1 cells slots Q (F0 m (pc + 3) ls (.ref r :: rest))) : W p l e R s m args below meth c H locs cells slots Q (F0 m pc ls st0) := by
  obtain ⟨hnc, hnr, hv, hdis⟩ := ckL_ok hck
  obtain ⟨pre, hPc, hFc⟩ := preS F As hP hD hS isC hnc hC
  obtain ⟨⟨wy2, hw⟩, hd⟩ := hk
  obtain ⟨hx, hb, hml, hown, hts, hK, hX, hA, hr, hlocks⟩ := F
  refine va_callr (va_runS (As := As) (rest := rest) ⟨hx, hb, hml, hown, hts⟩ (hM H.size) (va_cwS n hts hG hw hrc hrs hd hR) ⟨wP_blind, pre⟩ rfl hn hsz hst (lv_room hro) hdg hf) hS (fun q _ h => hFc q h) hFc (fun u ra t H1 locs1 ht hvm hpo hB hz1 hk1 hS1 => ?_)
  obtain ⟨w1, r⟩ := u
  obtain ⟨hB, hra⟩ := hB
  dsimp only at hra hB hpo
  subst hra
  obtain ⟨hP2, hD2⟩ := back hP hD isC isR hC (pk_some ws isR hv) hnr hdis hk1 hFc ht hB
  exact kk ra w1 H1 locs1 hpo hP2 hD2 hS1
theorem cTI {post : Int32 → va_W → Prop} (F : Fx p s m args meth c cc nL Ts own rt g A) (hM : CI l y wy rm g As wc post 0 0) {n : Nat} (hk : Cal y wy bytes maxL ret n) {host : String} (hG : GoodIn Ts wy) (nk : Nat) (hnk : nestW[nk]? = some (.methodLinkNest own index y host)) (hini : Cond.initialized y.cls ∈ Ts) (hst1 : Cond.static y ∈ Ts)
    (hrc : rm.cells = 0) (hrs : rm.slots = 0) (hR : rm.frames + 1 ≤ R.frames ∧ 8 + (maxL + 11) + rm.locals ≤ R.locals)
    (hP : va_P (eD g) vwCl ws H) (hD : va_D A ws) (hS : va_S A s.heap H locs) (isC isR : List Nat) (hC : isC.map (fun i => ws[i]?) = wc.map some) (hck : ckL ws.length isC isR = true) (hsz : ls.size = nL) (hst : st0 = As.reverse ++ rest) (hn : As.length = n) (hro : (rest.map fun v => v.category).sum ≤ 8) (hdg : decode cc pc = .ok (.invokestatic index, 3)) (hf : cells ≤ R.cells ∧ slots ≤ R.slots)
    (kk : ∀ (r : Int32) (w1 : va_W) (H1 : Heap) (locs1 : List Loc), post r w1 → va_P (eD g) vwCl (pk ws isR ++ w1) H1 → va_D A (pk ws isR ++ w1) → va_S A s.heap H1 locs1 → W p l e R s m args below meth c H1 locs1 cells slots Q (F0 m (pc + 3) ls (.int r :: rest))) : W p l e R s m args below meth c H locs cells slots Q (F0 m pc ls st0) := by
  obtain ⟨hnc, hnr, hv, hdis⟩ := ckL_ok hck
  obtain ⟨pre, hPc, hFc⟩ := preS F As hP hD hS isC hnc hC
  obtain ⟨⟨wy2, hw⟩, hd⟩ := hk
  obtain ⟨hx, hb, hml, hown, hts, hK, hX, hA, hr, hlocks⟩ := F
  refine va_calli (va_runSN (As := As) (rest := rest) (host := host) ⟨hx, hb, hml, hown, hts⟩ (hM H.size) ⟨va_cnB n hts hG hw hrc hrs (hX.nest nk hnk) (hts _ hini) hd hR, hts _ hst1, trivial⟩ ⟨wP_blind, pre⟩ rfl hn hsz hst (lv_room hro) hdg hf) hS (fun q _ h => hFc q h) hFc (fun r w1 t H1 locs1 ht hvm hpo hB hz1 hk1 hS1 => ?_)
  obtain ⟨hP2, hD2⟩ := back hP hD isC isR hC (pk_some ws isR hv) hnr hdis hk1 hFc ht hB
  exact kk r w1 H1 locs1 hpo hP2 hD2 hS1
theorem cNV {post : va_W → Prop} (F : Fx p s m args meth c cc nL Ts own rt g A) (hM : CV l y wy rm g (.ref b :: As) wc post mc ms) {n : Nat} (hk : Cal y wy bytes maxL none n) (hnm : y.name = "<init>") (hG : GoodIn Ts wy) (hini : Cond.initialized y.cls ∈ Ts) (hlk : Cond.methodLink own index y ∈ Ts) (him : Cond.instanceMethod y ∈ Ts)
    (hrc : rm.cells = mc) (hrs : rm.slots = ms) (hR : rm.frames + 1 ≤ R.frames ∧ 8 + (maxL + 11) + rm.locals ≤ R.locals)
    (hP : va_P (eD g) vwCl ws H) (hD : va_D A ws) (hS : va_S A s.heap H locs) (isC isR : List Nat) (hC : isC.map (fun i => ws[i]?) = wc.map some) (hck : ckL ws.length isC isR = true) (hsz : ls.size = nL) (hst : st0 = As.reverse ++ .ref b :: rest) (hn : As.length = n) (hro : (rest.map fun v => v.category).sum ≤ 8) (hdg : decode cc pc = .ok (.invokespecial index, 3)) (hf : cells + mc ≤ R.cells ∧ slots + ms ≤ R.slots)
    (kk : ∀ (w1 : va_W) (H1 : Heap) (locs1 : List Loc), post w1 → va_P (eD g) vwCl (pk ws isR ++ w1) H1 → va_D A (pk ws isR ++ w1) → va_S A s.heap H1 locs1 → W p l e R s m args below meth c H1 locs1 (cells + mc) (slots + ms) Q (F0 m (pc + 3) ls (rest))) : W p l e R s m args below meth c H locs cells slots Q (F0 m pc ls st0) := by
  obtain ⟨hnc, hnr, hv, hdis⟩ := ckL_ok hck
  obtain ⟨pre, hPc, hFc⟩ := preS F (.ref b :: As) hP hD hS isC hnc hC
  obtain ⟨⟨wy2, hw⟩, hd⟩ := hk
  obtain ⟨hx, hb, hml, hown, hts, hK, hX, hA, hr, hlocks⟩ := F
  refine va_callv (va_runI (As := As) (rest := rest) (b := b) ⟨hx, hb, hml, hown, hts⟩ (hM H.size) (cwI n hts hG hw hrc hrs (hts _ hini) (hts _ hlk) (hts _ him) hnm hd hR) ⟨wP_blind, pre⟩ rfl hn hsz hst (lv_room hro) hdg hf) hS (fun q _ h => hFc q h) hFc (fun w1 t H1 locs1 ht hvm hpo hB hz1 hk1 hS1 => ?_)
  obtain ⟨hP2, hD2⟩ := back hP hD isC isR hC (pk_some ws isR hv) hnr hdis hk1 hFc ht hB
  exact kk w1 H1 locs1 hpo hP2 hD2 hS1
theorem cMV {post : va_W → Prop} (F : Fx p s m args meth c cc nL Ts own rt g A) (hM : CV l y wy rm g (.ref b :: As) wc post mc ms) {n : Nat} (hk : Cal y wy bytes maxL none n) {host : String} (hnm : y.name = "<init>") (hG : GoodIn Ts wy) (nk : Nat) (hnk : nestW[nk]? = some (.methodLinkNest own index y host)) (hini : Cond.initialized y.cls ∈ Ts) (him : Cond.instanceMethod y ∈ Ts)
    (hrc : rm.cells = mc) (hrs : rm.slots = ms) (hR : rm.frames + 1 ≤ R.frames ∧ 8 + (maxL + 11) + rm.locals ≤ R.locals)
    (hP : va_P (eD g) vwCl ws H) (hD : va_D A ws) (hS : va_S A s.heap H locs) (isC isR : List Nat) (hC : isC.map (fun i => ws[i]?) = wc.map some) (hck : ckL ws.length isC isR = true) (hsz : ls.size = nL) (hst : st0 = As.reverse ++ .ref b :: rest) (hn : As.length = n) (hro : (rest.map fun v => v.category).sum ≤ 8) (hdg : decode cc pc = .ok (.invokespecial index, 3)) (hf : cells + mc ≤ R.cells ∧ slots + ms ≤ R.slots)
    (kk : ∀ (w1 : va_W) (H1 : Heap) (locs1 : List Loc), post w1 → va_P (eD g) vwCl (pk ws isR ++ w1) H1 → va_D A (pk ws isR ++ w1) → va_S A s.heap H1 locs1 → W p l e R s m args below meth c H1 locs1 (cells + mc) (slots + ms) Q (F0 m (pc + 3) ls (rest))) : W p l e R s m args below meth c H locs cells slots Q (F0 m pc ls st0) := by
  obtain ⟨hnc, hnr, hv, hdis⟩ := ckL_ok hck
  obtain ⟨pre, hPc, hFc⟩ := preS F (.ref b :: As) hP hD hS isC hnc hC
  obtain ⟨⟨wy2, hw⟩, hd⟩ := hk
  obtain ⟨hx, hb, hml, hown, hts, hK, hX, hA, hr, hlocks⟩ := F
  refine va_callv (va_runIN (As := As) (rest := rest) (b := b) (host := host) ⟨hx, hb, hml, hown, hts⟩ (hM H.size) ⟨va_cnB n hts hG hw hrc hrs (hX.nest nk hnk) (hts _ hini) hd hR, hnm, hts _ him⟩ ⟨wP_blind, pre⟩ rfl hn hsz hst (lv_room hro) hdg hf) hS (fun q _ h => hFc q h) hFc (fun w1 t H1 locs1 ht hvm hpo hB hz1 hk1 hS1 => ?_)
  obtain ⟨hP2, hD2⟩ := back hP hD isC isR hC (pk_some ws isR hv) hnr hdis hk1 hFc ht hB
  exact kk w1 H1 locs1 hpo hP2 hD2 hS1
end BCA
