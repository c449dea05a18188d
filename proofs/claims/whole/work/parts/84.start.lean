/-! ===== the law's start: what the tables and the given state say ===== -/
theorem nest_tbl : ∀ w ∈ nestW, w ∈ lw_tbl := by decide +kernel
theorem stro_tbl : ∀ i : Nat, i < 9 → Cond.stringRef RX3 (idxS.getD i 0) (txtS.getD i "") ∈ lw_tbl := by decide +kernel
def stT (i : Nat) : Term := .string RX3 (idxS.getD i 0)
def stV (i : Nat) : Term := .field (stT i) "java/lang/String" "value" "[B"
abbrev gvC : Cond := Jvm.Cond.and given_1 narrow_1
theorem sx_1 : ∀ i : Nat, i < 9 → Cond.exactly (stT i) "java/lang/String" ∈ flatC gvC := by decide +kernel
theorem sx_2 : ∀ i : Nat, i < 9 → Cond.eq (.field (stT i) "java/lang/String" "coder" "B") (.int 0) ∈ flatC gvC := by decide +kernel
theorem sx_3 : ∀ i : Nat, i < 9 → Cond.arrayOf (stV i) .byte ∈ flatC gvC := by decide +kernel
theorem sx_4 : ∀ i : Nat, i < 9 → Cond.eq (.length (stV i)) (.int (Int32.ofNat (lenS.getD i 0))) ∈ flatC gvC := by decide +kernel
theorem sx_5 : ∀ i : Nat, i < 9 → ∀ j : Nat, j < lenS.getD i 0 → Cond.eq (.elem (stV i) (.int (Int32.ofNat j))) (.int ((bytS.getD i []).getD j 0)) ∈ flatC gvC := by decide +kernel
theorem sx_6 : ∀ j : Nat, j < 9 → ∀ i : Nat, i < j → Cond.not (Cond.eq (stT i) (stT j)) ∈ flatC gvC := by decide +kernel
theorem sx_7 : ∀ i : Nat, i < 9 → lenS.getD i 0 < 2 ^ 31 := by decide +kernel
theorem lx_1 : ∀ j : Nat, j < 5 → Cond.eq (.elem (.static RX4 "LEAST" "[I") (.int (Int32.ofNat j))) (.int (nI (leastN j))) ∈ flatC gvC := by decide +kernel
theorem lx_2 : ∀ j : Nat, j < 5 → Cond.eq (.elem (.static RX4 "GREATEST" "[I") (.int (Int32.ofNat j))) (.int (nI (greatN j))) ∈ flatC gvC := by decide +kernel
theorem lx_3 : Cond.arrayOf (.static RX4 "LEAST" "[I") .int ∈ flatC gvC := by decide +kernel
theorem lx_4 : Cond.arrayOf (.static RX4 "GREATEST" "[I") .int ∈ flatC gvC := by decide +kernel
theorem lx_5 : Cond.eq (.length (.static RX4 "LEAST" "[I")) (.int (Int32.ofNat 5)) ∈ flatC gvC := by decide +kernel
theorem lx_6 : Cond.eq (.length (.static RX4 "GREATEST" "[I")) (.int (Int32.ofNat 5)) ∈ flatC gvC := by decide +kernel
theorem lx_7 : Cond.eq (.static "java/lang/String" "COMPACT_STRINGS" "Z") (.int 1) ∈ flatC gvC := by decide +kernel
theorem lx_8 : Cond.isRef (.static "jdk/internal/util/Preconditions" "SIOOBE_FORMATTER" "Ljava/util/function/BiFunction;") ∈ flatC gvC := by decide +kernel
theorem tx_all : ∀ w ∈ [Cond.laysStatic RX4 "LEAST" "[I", Cond.laysStatic RX4 "GREATEST" "[I", Cond.laysStatic "java/lang/String" "COMPACT_STRINGS" "Z", Cond.laysStatic "jdk/internal/util/Preconditions" "SIOOBE_FORMATTER" "Ljava/util/function/BiFunction;", Cond.initialized RX4, Cond.initialized "java/lang/String", Cond.initialized "jdk/internal/util/Preconditions", Cond.arrayClass .int, Cond.arrayClass .long, Cond.arrayClass .char, Cond.instantiable RX0 5, Cond.instantiable RX1 2, Cond.instantiable RX2 5, Cond.instantiable RX3 2, Cond.instantiable RX4 10, Cond.instantiable RX5 20], w ∈ lw_tbl := by decide +kernel
theorem tx_at {k : Nat} {w : Cond} (h : [Cond.laysStatic RX4 "LEAST" "[I", Cond.laysStatic RX4 "GREATEST" "[I", Cond.laysStatic "java/lang/String" "COMPACT_STRINGS" "Z", Cond.laysStatic "jdk/internal/util/Preconditions" "SIOOBE_FORMATTER" "Ljava/util/function/BiFunction;", Cond.initialized RX4, Cond.initialized "java/lang/String", Cond.initialized "jdk/internal/util/Preconditions", Cond.arrayClass .int, Cond.arrayClass .long, Cond.arrayClass .char, Cond.instantiable RX0 5, Cond.instantiable RX1 2, Cond.instantiable RX2 5, Cond.instantiable RX3 2, Cond.instantiable RX4 10, Cond.instantiable RX5 20][k]? = some w) : w ∈ lw_tbl := tx_all w (List.mem_of_getElem? h)
theorem st_array {s : State} {args : Array Value} {ty : FieldType} (h : (Cond.arrayClass ty).before args s = true) (hob : ∀ C, ty ≠ .object C) : ∃ cA : ClassId, ArrOfT s cA ty ∧ va_RA s cA ty := by
  obtain ⟨cA, kA, comp, h1, h2, h3⟩ := Cond.arrayClass_spec h
  refine ⟨cA, fun n z => ⟨fun k hk => (by cases hk), kA, h2, comp, h3⟩, ?_⟩
  cases ty <;> first | exact absurd rfl (hob _) | exact h1
theorem st_class {s : State} {args : Array Value} (hts : ∀ w ∈ lw_tbl, w.before args s = true) : ∃ (dC : Nat → ClassId) (dI : Nat → Nat → Nat), ∀ (k : Nat) (q : vw_C), vwCl[k]? = some q → u_Kn s q.1 q.2.1 q.2.2 (dC k) (dI k) := by
  obtain ⟨c0, i0, k0⟩ := u_known (C := RX0) (T := TX0) (N := 5) (n := 5) hts iX0_tbl (hts _ (tx_at (k := 10) rfl))
  obtain ⟨c1, i1, k1⟩ := u_known (C := RX1) (T := TX1) (N := 2) (n := 2) hts iX1_tbl (hts _ (tx_at (k := 11) rfl))
  obtain ⟨c2, i2, k2⟩ := u_known (C := RX2) (T := TX2) (N := 5) (n := 5) hts iX2_tbl (hts _ (tx_at (k := 12) rfl))
  obtain ⟨c3, i3, k3⟩ := u_known (C := RX3) (T := TX3) (N := 2) (n := 2) hts iX3_tbl (hts _ (tx_at (k := 13) rfl))
  obtain ⟨c4, i4, k4⟩ := u_known (C := RX4) (T := TX4) (N := 10) (n := 10) hts iX4_tbl (hts _ (tx_at (k := 14) rfl))
  obtain ⟨c5, i5, k5⟩ := u_known (C := RX5) (T := TX5) (N := 20) (n := 20) hts iX5_tbl (hts _ (tx_at (k := 15) rfl))
  refine ⟨fun k => if k = 0 then c0 else if k = 1 then c1 else if k = 2 then c2 else if k = 3 then c3 else if k = 4 then c4 else c5, fun k => if k = 0 then i0 else if k = 1 then i1 else if k = 2 then i2 else if k = 3 then i3 else if k = 4 then i4 else i5, ?_⟩
  intro k q hq
  match k, hq with
  | 0, hq => cases hq; exact k0
  | 1, hq => cases hq; exact k1
  | 2, hq => cases hq; exact k2
  | 3, hq => cases hq; exact k3
  | 4, hq => cases hq; exact k4
  | 5, hq => cases hq; exact k5
  | k + 6, hq => simp [vwCl] at hq
theorem st_all {s : State} {args : Array Value} (hts : ∀ w ∈ lw_tbl, w.before args s = true) (hgv : gvC.before args s = true) : ∃ g : EE, va_K (eD g) vwCl (eT g) s ∧ eX g (fun q => s.heap.size ≤ q) s s.heap := by
  have hF := flat_of_before _ hgv
  have hA : ∀ a : Nat, a < s.heap.size → ¬ (fun q : Nat => s.heap.size ≤ q) a := fun a h => Nat.not_le.mpr h
  obtain ⟨dC, dI, hKc⟩ := st_class hts
  obtain ⟨aI, hI1, hI2⟩ := st_array (ty := .int) (hts _ (tx_at (k := 7) rfl)) (fun _ h => by cases h)
  obtain ⟨aJ, hJ1, hJ2⟩ := st_array (ty := .long) (hts _ (tx_at (k := 8) rfl)) (fun _ h => by cases h)
  obtain ⟨aC, hC1, hC2⟩ := st_array (ty := .char) (hts _ (tx_at (k := 9) rfl)) (fun _ h => by cases h)
  obtain ⟨tL, eL1, hL⟩ := va_Tof (N := 5) (f := fun j => .int (nI (leastN j))) (by decide) (hF _ lx_3) (va_eqt (hF _ lx_5)) (fun j hj => va_eqt (hF _ (lx_1 j hj))) hA
  obtain ⟨tG, eG1, hG⟩ := va_Tof (N := 5) (f := fun j => .int (nI (greatN j))) (by decide) (hF _ lx_4) (va_eqt (hF _ lx_6)) (fun j hj => va_eqt (hF _ (lx_2 j hj))) hA
  obtain ⟨aK, aV, hS, hSt⟩ := vk_Sof (N := 9) (tm := stT) (len := lenS) (byt := bytS) sx_7 (fun i h => hF _ (sx_1 i h)) (fun i h => hF _ (sx_2 i h)) (fun i h => hF _ (sx_3 i h)) (fun i h => hF _ (sx_4 i h)) (fun i h j hj => hF _ (sx_5 i h j hj)) (fun i j hi hj hij => by
    rcases Nat.lt_or_gt_of_ne hij with h | h
    · exact Or.inl (hF _ (sx_6 j hj i h))
    · exact Or.inr (hF _ (sx_6 i hi j h))) hA
  refine ⟨((dC, dI), (aI, aJ, aC), (tL, tG, aK, aV, 0)), ⟨hKc, fun k q h => ?_⟩, ?_, va_Zref (hts _ (tx_at (k := 0) rfl)) (hts _ (tx_at (k := 4) rfl)) eL1 hA, hL, va_Zref (hts _ (tx_at (k := 1) rfl)) (hts _ (tx_at (k := 4) rfl)) eG1 hA, hG, va_Zof (hts _ (tx_at (k := 2) rfl)) (hts _ (tx_at (k := 5) rfl)) (va_eqi (hF _ lx_7)) hA, hS, fun i hi => vk_R.of (hts _ (stro_tbl i hi)) (hSt i hi), va_Zqof (hts _ (tx_at (k := 3) rfl)) (hts _ (tx_at (k := 6) rfl)) (hF _ lx_8) hA⟩
  · match k, h with
    | 0, h => cases h; exact ⟨hI1, hI2⟩
    | 1, h => cases h; exact ⟨hJ1, hJ2⟩
    | 2, h => cases h; exact ⟨hC1, hC2⟩
    | k + 3, h => simp [eT] at h
  · intro w hw
    rcases nestW_all w hw with ⟨a, i, x, hh, rfl⟩ | ⟨a, i, b, n, d, hh, rfl⟩
    · exact va_Nw.of rfl (hts _ (nest_tbl _ hw))
    · exact va_Nw.of rfl (hts _ (nest_tbl _ hw))
