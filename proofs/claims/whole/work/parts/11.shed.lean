theorem kX4_holds : Cal yX4_holds wsX4_holds cX4_holds 3 (some .boolean) 2 := ⟨⟨_, rfl⟩, by decide +kernel⟩
set_option maxHeartbeats 4000000 in
set_option maxRecDepth 100000 in
theorem c_X4_holds (l : Launch) (g : EE) (x : Int64) (r : Nat) (hr : r < 64) : CI l yX4_holds wsX4_holds ({ frames := 0, cells := 0, slots := 0, locals := 0 }) g [.long x, .int (nI r)] [] (fun (rz : Int32) (wz : va_W) => rz = (nI (if bitL x r = true then 1 else 0)) ∧ wz = []) 0 0 := by
  refine ctI (cc := cX4_holds) (maxL := 3) (ret := (some .boolean)) (by decide) rfl (Nat.le_of_ble_eq_true rfl) ?_
  intro p_ e_ s_ m_ bl_ mt_ cd_ A ls F hnm hP hD hS hl
  obtain ⟨hx, hb, hml, hown, hts, hK, hX, hA, hrt_, hlocks⟩ := id F
  have hl : lv_has ls 3 [(0, .long x), (2, .int (nI r))] := hl
  refine lv_lload_n hx hb dX4_holds_0 rfl (lv_at hl 0 rfl) ?_
  refine lv_iload_n hx hb dX4_holds_1 rfl (lv_at hl 1 rfl) ?_
  refine lv_lshr hx hb dX4_holds_2 rfl ?_
  refine lv_lconst (v := lN 1) hx hb dX4_holds_3 rfl ?_
  refine lv_land hx hb dX4_holds_4 ?_
  refine lv_lconst (v := lN 0) hx hb dX4_holds_5 rfl ?_
  refine jeq (tgt := 14) hx hb dX4_holds_6 dX4_holds_7 (by decide) (fun c7 => ?_) (fun c7 => ?_)
  · skip
    refine lv_iconst (v := (nI 0)) hx hb dX4_holds_14 (by decide) ?_
    exact rtZ F hP hD hS dX4_holds_15 (rfl) (⟨by first | rw [if_pos (by have := mt (holdsL (x := x) hr).mpr c7; simpa using this)] | rw [if_neg (by have := (holdsL (x := x) hr).mp c7; simp [this])], rfl⟩)
  · skip
    refine lv_iconst (v := (nI 1)) hx hb dX4_holds_10 (by decide) ?_
    refine lv_goto (tgt := 15) hx hb dX4_holds_11 (by decide) ?_
    exact rtZ F hP hD hS dX4_holds_15 (rfl) (⟨by first | rw [if_pos (by have := mt (holdsL (x := x) hr).mpr c7; simpa using this)] | rw [if_neg (by have := (holdsL (x := x) hr).mp c7; simp [this])], rfl⟩)

theorem inX0_left_X0 : ∀ w ∈ u_ws RX0 TX0 5, w ∈ wsX0_left := fun _ h => (List.mem_cons_of_mem _ (List.mem_append_right _ h))
theorem lkX0_left_1 : Cond.fieldLink RX0 9 "StripInFiveSteps$Shed" "weights" "[I" ∈ wsX0_left := List.mem_of_getElem? (i := 1) rfl
theorem kX0_left : Cal yX0_left wsX0_left cX0_left 4 (some .long) 0 := ⟨⟨_, rfl⟩, by decide +kernel⟩
set_option maxHeartbeats 4000000 in
set_option maxRecDepth 100000 in
theorem c_X0_left (l : Launch) (g : EE) (h0 : Nat) (h1 : Nat) (h2 : Nat) (W : Nat → Nat) (B : Nat → Nat) (sk : Nat) (ek : Nat) (tr : Nat) (hW : ∀ j, W j ≤ 9) : CL l yX0_left wsX0_left ({ frames := 0, cells := 0, slots := 0, locals := 0 }) g [.ref h0] [(h0, .inr (0, [.ref h1, .ref h2, .int (nI sk), .int (nI ek), .int (nI tr)])), (h1, .inl (eI g, 41, .inl (fun j => nI (W j)))), (h2, .inl (eI g, 5, .inl (fun j => nI (B j))))] (fun (rz : Int64) (wz : va_W) => rz = (lfM W) ∧ wz = [(h0, .inr (0, [.ref h1, .ref h2, .int (nI sk), .int (nI ek), .int (nI tr)])), (h1, .inl (eI g, 41, .inl (fun j => nI (W j)))), (h2, .inl (eI g, 5, .inl (fun j => nI (B j))))]) 0 0 := by
  refine ctL (cc := cX0_left) (maxL := 4) (ret := (some .long)) (by decide) rfl (Nat.le_of_ble_eq_true rfl) ?_
  intro p_ e_ s_ m_ bl_ mt_ cd_ A ls F hnm hP hD hS hl
  obtain ⟨hx, hb, hml, hown, hts, hK, hX, hA, hrt_, hlocks⟩ := id F
  have hl : lv_has ls 4 [(0, .ref h0)] := hl
  refine lv_lconst (v := lN 0) hx hb dX0_left_0 rfl ?_
  refine lv_lstore_n (lv' := [(1, .long (lN 0)), (0, .ref h0)]) hx hb dX0_left_1 rfl hl (by decide) rfl (fun ls hl => ?_)
  refine lv_iconst (v := (nI 1)) hx hb dX0_left_2 (by decide) ?_
  refine lv_istore_n (lv' := [(3, .int (nI 1)), (1, .long (lN 0)), (0, .ref h0)]) hx hb dX0_left_3 rfl hl (by decide) rfl (fun ls hl => ?_)
  refine xlo (σ := Nat × Int64) 4 (fun xz_ => (fun (i : Nat) (x : Int64) => [(0, .ref h0), (1, .long x), (3, .int (nI i))]) xz_.1 xz_.2) (fun xz_ => (fun (i : Nat) (x : Int64) => [(h0, .inr (0, [.ref h1, .ref h2, .int (nI sk), .int (nI ek), .int (nI tr)])), (h1, .inl (eI g, 41, .inl (fun j => nI (W j)))), (h2, .inl (eI g, 5, .inl (fun j => nI (B j))))]) xz_.1 xz_.2) (fun xz_ => (fun (i : Nat) (x : Int64) => x = mskP (fun r => decide (W r ≠ 0)) (i - 1) ∧ 1 ≤ i ∧ i ≤ 41) xz_.1 xz_.2) (fun xz_ => (fun (i : Nat) (x : Int64) => 41 - i) xz_.1 xz_.2) (fun xz_ hI ih4 H locs ls hP hD hS hl => ?_) (1, (lN 0)) (show (lN 0) = mskP (fun r => decide (W r ≠ 0)) (1 - 1) ∧ 1 ≤ 1 ∧ 1 ≤ 41 from (⟨rfl, by omega, by omega⟩)) hP hD hS (lv_sub hl [2, 1, 0] rfl)
  obtain ⟨i, x⟩ := xz_
  have hP : va_P (eD g) vwCl [(h0, .inr (0, [.ref h1, .ref h2, .int (nI sk), .int (nI ek), .int (nI tr)])), (h1, .inl (eI g, 41, .inl (fun j => nI (W j)))), (h2, .inl (eI g, 5, .inl (fun j => nI (B j))))] H := hP
  have hD : va_D A [(h0, .inr (0, [.ref h1, .ref h2, .int (nI sk), .int (nI ek), .int (nI tr)])), (h1, .inl (eI g, 41, .inl (fun j => nI (W j)))), (h2, .inl (eI g, 5, .inl (fun j => nI (B j))))] := hD
  have hl : lv_has ls 4 [(0, .ref h0), (1, .long x), (3, .int (nI i))] := hl
  have hI4 : x = mskP (fun r => decide (W r ≠ 0)) (i - 1) ∧ 1 ≤ i ∧ i ≤ 41 := hI
  clear hI
  obtain ⟨hx0, hi1, hi2⟩ := id hI4
  refine lv_iload_n hx hb dX0_left_4 rfl (lv_at hl 2 rfl) ?_
  refine lv_bipush (v := (nI 40)) hx hb dX0_left_5 (by decide) ?_
  refine xgt (tgt := 31) hx hb dX0_left_7 (by decide) (by omega) (by omega) (fun c7 => ?_) (fun c7 => ?_)
  · skip
    refine lv_lload_n hx hb dX0_left_31 rfl (lv_at hl 1 rfl) ?_
    exact rtL F hP hD hS dX0_left_32 (⟨by rw [hx0, show i - 1 = 40 by omega]; rfl, rfl⟩)
  · skip
    refine lv_aload_n hx hb dX0_left_10 rfl (lv_at hl 0 rfl) ?_
    refine xget F hP inX0_left_X0 0 rfl rfl 0 (by decide) lkX0_left_1 rfl dX0_left_11 ?_
    refine lv_iload_n hx hb dX0_left_14 rfl (lv_at hl 2 rfl) ?_
    refine xald F hP 1 (v := (nI (W i))) rfl (by omega) (by omega) rfl dX0_left_15 ?_
    have hbd1 := hW (i)
    refine zle (tgt := 25) hx hb dX0_left_16 (by decide) (by omega) (fun c16 => ?_) (fun c16 => ?_)
    · skip
      refine lv_iinc (v := (nI (i + 1))) (lv' := [(3, .int (nI (i + 1))), (0, .ref h0), (1, .long x)]) hx hb dX0_left_25 hl (k := 2) rfl (iincP i 1) (by decide) rfl (fun ls hl => ?_)
      refine lv_goto (tgt := 4) hx hb dX0_left_28 (by decide) ?_
      exact ih4 (i + 1, x) (show x = mskP (fun r => decide (W r ≠ 0)) ((i + 1) - 1) ∧ 1 ≤ (i + 1) ∧ (i + 1) ≤ 41 from (⟨by rw [hx0]; exact (mskP_off (by omega) (by simpa using c16)).symm, by omega, by omega⟩)) (show 41 - (i + 1) < 41 - i from (by omega)) _ _ _ hP hD hS (lv_sub hl [1, 2, 0] rfl)
    · skip
      refine lv_lload_n hx hb dX0_left_19 rfl (lv_at hl 1 rfl) ?_
      refine lv_lconst (v := lN 1) hx hb dX0_left_20 rfl ?_
      refine lv_iload_n hx hb dX0_left_21 rfl (lv_at hl 2 rfl) ?_
      refine lv_lshl hx hb dX0_left_22 rfl ?_
      refine lv_lor hx hb dX0_left_23 ?_
      refine lv_lstore_n (lv' := [(1, .long (x ||| ((lN 1) <<< (((nI i)).toInt64 &&& 63)))), (0, .ref h0), (3, .int (nI i))]) hx hb dX0_left_24 rfl hl (by decide) rfl (fun ls hl => ?_)
      refine lv_iinc (v := (nI (i + 1))) (lv' := [(3, .int (nI (i + 1))), (1, .long (x ||| ((lN 1) <<< (((nI i)).toInt64 &&& 63)))), (0, .ref h0)]) hx hb dX0_left_25 hl (k := 2) rfl (iincP i 1) (by decide) rfl (fun ls hl => ?_)
      refine lv_goto (tgt := 4) hx hb dX0_left_28 (by decide) ?_
      exact ih4 (i + 1, (x ||| ((lN 1) <<< (((nI i)).toInt64 &&& 63)))) (show (x ||| ((lN 1) <<< (((nI i)).toInt64 &&& 63))) = mskP (fun r => decide (W r ≠ 0)) ((i + 1) - 1) ∧ 1 ≤ (i + 1) ∧ (i + 1) ≤ 41 from (⟨by rw [hx0]; exact (mskP_on (by omega) (by simpa using c16)).symm, by omega, by omega⟩)) (show 41 - (i + 1) < 41 - i from (by omega)) _ _ _ hP hD hS (lv_sub hl [2, 1, 0] rfl)

theorem lkX0_weightOf_3 : Cond.initialized RX4 ∈ wsX0_weightOf := List.mem_of_getElem? (i := 3) rfl
theorem lkX0_weightOf_2 : Cond.static yX4_holds ∈ wsX0_weightOf := List.mem_of_getElem? (i := 2) rfl
theorem inX0_weightOf_X0 : ∀ w ∈ u_ws RX0 TX0 5, w ∈ wsX0_weightOf := fun _ h => (List.mem_cons_of_mem _ (List.mem_append_right _ h))
theorem lkX0_weightOf_1 : Cond.fieldLink RX0 9 "StripInFiveSteps$Shed" "weights" "[I" ∈ wsX0_weightOf := List.mem_of_getElem? (i := 1) rfl
theorem kX0_weightOf : Cal yX0_weightOf wsX0_weightOf cX0_weightOf 5 (some .int) 1 := ⟨⟨_, rfl⟩, by decide +kernel⟩
set_option maxHeartbeats 4000000 in
set_option maxRecDepth 100000 in
theorem c_X0_weightOf (l : Launch) (g : EE) (h0 : Nat) (h1 : Nat) (h2 : Nat) (W : Nat → Nat) (B : Nat → Nat) (sk : Nat) (ek : Nat) (tr : Nat) (x : Int64)  : CI l yX0_weightOf wsX0_weightOf ({ frames := 1, cells := 0, slots := 0, locals := 22 }) g [.ref h0, .long x] [(h0, .inr (0, [.ref h1, .ref h2, .int (nI sk), .int (nI ek), .int (nI tr)])), (h1, .inl (eI g, 41, .inl (fun j => nI (W j)))), (h2, .inl (eI g, 5, .inl (fun j => nI (B j))))] (fun (rz : Int32) (wz : va_W) => rz = (nI (wtS W (bitL x))) ∧ wz = [(h0, .inr (0, [.ref h1, .ref h2, .int (nI sk), .int (nI ek), .int (nI tr)])), (h1, .inl (eI g, 41, .inl (fun j => nI (W j)))), (h2, .inl (eI g, 5, .inl (fun j => nI (B j))))]) 0 0 := by
  refine ctI (cc := cX0_weightOf) (maxL := 5) (ret := (some .int)) (by decide) rfl (Nat.le_of_ble_eq_true rfl) ?_
  intro p_ e_ s_ m_ bl_ mt_ cd_ A ls F hnm hP hD hS hl
  obtain ⟨hx, hb, hml, hown, hts, hK, hX, hA, hrt_, hlocks⟩ := id F
  have hl : lv_has ls 5 [(0, .ref h0), (1, .long x)] := hl
  refine lv_iconst (v := (nI 0)) hx hb dX0_weightOf_0 (by decide) ?_
  refine lv_istore_n (lv' := [(3, .int (nI 0)), (0, .ref h0), (1, .long x)]) hx hb dX0_weightOf_1 rfl hl (by decide) rfl (fun ls hl => ?_)
  refine lv_iconst (v := (nI 1)) hx hb dX0_weightOf_2 (by decide) ?_
  refine lv_istore (lv' := [(4, .int (nI 1)), (3, .int (nI 0)), (0, .ref h0), (1, .long x)]) hx hb dX0_weightOf_3 hl (by decide) rfl (fun ls hl => ?_)
  refine xlo (σ := Nat × Nat) 5 (fun xz_ => (fun (i : Nat) (a : Nat) => [(0, .ref h0), (1, .long x), (3, .int (nI a)), (4, .int (nI i))]) xz_.1 xz_.2) (fun xz_ => (fun (i : Nat) (a : Nat) => [(h0, .inr (0, [.ref h1, .ref h2, .int (nI sk), .int (nI ek), .int (nI tr)])), (h1, .inl (eI g, 41, .inl (fun j => nI (W j)))), (h2, .inl (eI g, 5, .inl (fun j => nI (B j))))]) xz_.1 xz_.2) (fun xz_ => (fun (i : Nat) (a : Nat) => a = sg (fun r => if bitL x r = true then W r else 0) (i - 1) ∧ 1 ≤ i ∧ i ≤ 41) xz_.1 xz_.2) (fun xz_ => (fun (i : Nat) (a : Nat) => 41 - i) xz_.1 xz_.2) (fun xz_ hI ih5 H locs ls hP hD hS hl => ?_) (1, 0) (show 0 = sg (fun r => if bitL x r = true then W r else 0) (1 - 1) ∧ 1 ≤ 1 ∧ 1 ≤ 41 from (⟨rfl, by omega, by omega⟩)) hP hD hS (lv_sub hl [2, 3, 1, 0] rfl)
  obtain ⟨i, a⟩ := xz_
  have hP : va_P (eD g) vwCl [(h0, .inr (0, [.ref h1, .ref h2, .int (nI sk), .int (nI ek), .int (nI tr)])), (h1, .inl (eI g, 41, .inl (fun j => nI (W j)))), (h2, .inl (eI g, 5, .inl (fun j => nI (B j))))] H := hP
  have hD : va_D A [(h0, .inr (0, [.ref h1, .ref h2, .int (nI sk), .int (nI ek), .int (nI tr)])), (h1, .inl (eI g, 41, .inl (fun j => nI (W j)))), (h2, .inl (eI g, 5, .inl (fun j => nI (B j))))] := hD
  have hl : lv_has ls 5 [(0, .ref h0), (1, .long x), (3, .int (nI a)), (4, .int (nI i))] := hl
  have hI5 : a = sg (fun r => if bitL x r = true then W r else 0) (i - 1) ∧ 1 ≤ i ∧ i ≤ 41 := hI
  clear hI
  obtain ⟨ha, hi1, hi2⟩ := id hI5
  refine lv_iload hx hb dX0_weightOf_5 (lv_at hl 3 rfl) ?_
  refine lv_bipush (v := (nI 40)) hx hb dX0_weightOf_7 (by decide) ?_
  refine xgt (tgt := 37) hx hb dX0_weightOf_9 (by decide) (by omega) (by omega) (fun c9 => ?_) (fun c9 => ?_)
  · skip
    refine lv_iload_n hx hb dX0_weightOf_37 rfl (lv_at hl 2 rfl) ?_
    exact rtI F hP hD hS dX0_weightOf_38 (⟨by rw [ha, show i - 1 = 40 by omega]; rfl, rfl⟩)
  · skip
    refine lv_lload_n hx hb dX0_weightOf_12 rfl (lv_at hl 1 rfl) ?_
    refine lv_iload hx hb dX0_weightOf_13 (lv_at hl 3 rfl) ?_
    refine cTI (As := [.long x, .int (nI i)]) (rest := []) F (c_X4_holds l g x i (by omega)) kX4_holds ggX0_weightOf_X4_holds 4 rfl lkX0_weightOf_3 lkX0_weightOf_2 rfl rfl ⟨Nat.le_of_ble_eq_true rfl, Nat.le_of_ble_eq_true rfl⟩ hP hD hS [] [0, 1, 2] rfl rfl hl.1 rfl rfl (Nat.le_of_ble_eq_true rfl) dX0_weightOf_15 ⟨Nat.le_of_ble_eq_true rfl, Nat.le_of_ble_eq_true rfl⟩ (fun rz w1 H locs hpo hP hD hS => ?_)
    obtain ⟨rfl, rfl⟩ := hpo
    obtain ⟨hP, hD⟩ := nx (ws' := [(h0, .inr (0, [.ref h1, .ref h2, .int (nI sk), .int (nI ek), .int (nI tr)])), (h1, .inl (eI g, 41, .inl (fun j => nI (W j)))), (h2, .inl (eI g, 5, .inl (fun j => nI (B j))))]) hP hD [0, 1, 2] (ndB_ok _ rfl) rfl
    refine bqeq (tgt := 31) hx hb dX0_weightOf_18 (by decide) (fun c18 => ?_) (fun c18 => ?_)
    · skip
      refine lv_iinc (v := (nI (i + 1))) (lv' := [(4, .int (nI (i + 1))), (0, .ref h0), (1, .long x), (3, .int (nI a))]) hx hb dX0_weightOf_31 hl (k := 3) rfl (iincP i 1) (by decide) rfl (fun ls hl => ?_)
      refine lv_goto (tgt := 5) hx hb dX0_weightOf_34 (by decide) ?_
      exact ih5 (i + 1, a) (show a = sg (fun r => if bitL x r = true then W r else 0) ((i + 1) - 1) ∧ 1 ≤ (i + 1) ∧ (i + 1) ≤ 41 from (⟨by rw [ha]; exact (sg_skip (by omega) (by simp [c18])).symm, by omega, by omega⟩)) (show 41 - (i + 1) < 41 - i from (by omega)) _ _ _ hP hD hS (lv_sub hl [1, 2, 3, 0] rfl)
    · skip
      refine lv_iload_n hx hb dX0_weightOf_21 rfl (lv_at hl 2 rfl) ?_
      refine lv_aload_n hx hb dX0_weightOf_22 rfl (lv_at hl 0 rfl) ?_
      refine xget F hP inX0_weightOf_X0 0 rfl rfl 0 (by decide) lkX0_weightOf_1 rfl dX0_weightOf_23 ?_
      refine lv_iload hx hb dX0_weightOf_26 (lv_at hl 3 rfl) ?_
      refine xald F hP 1 (v := (nI (W i))) rfl (by omega) (by omega) rfl dX0_weightOf_28 ?_
      refine xadd hx hb dX0_weightOf_29 ?_
      refine lv_istore_n (lv' := [(3, .int (nI (a + (W i)))), (0, .ref h0), (1, .long x), (4, .int (nI i))]) hx hb dX0_weightOf_30 rfl hl (by decide) rfl (fun ls hl => ?_)
      refine lv_iinc (v := (nI (i + 1))) (lv' := [(4, .int (nI (i + 1))), (3, .int (nI (a + (W i)))), (0, .ref h0), (1, .long x)]) hx hb dX0_weightOf_31 hl (k := 3) rfl (iincP i 1) (by decide) rfl (fun ls hl => ?_)
      refine lv_goto (tgt := 5) hx hb dX0_weightOf_34 (by decide) ?_
      exact ih5 (i + 1, a + (W i)) (show (a + (W i)) = sg (fun r => if bitL x r = true then W r else 0) ((i + 1) - 1) ∧ 1 ≤ (i + 1) ∧ (i + 1) ≤ 41 from (⟨by rw [ha]; exact (sg_step (by omega) (by simp [c18])).symm, by omega, by omega⟩)) (show 41 - (i + 1) < 41 - i from (by omega)) _ _ _ hP hD hS (lv_sub hl [2, 3, 1, 0] rfl)

theorem inX0_leftIfTold_X0 : ∀ w ∈ u_ws RX0 TX0 5, w ∈ wsX0_leftIfTold := fun _ h => (List.mem_cons_of_mem _ (List.mem_append_left _ (List.mem_append_right _ h)))
theorem lkX0_leftIfTold_1 : Cond.fieldLink RX0 18 "StripInFiveSteps$Shed" "stripKind" "I" ∈ wsX0_leftIfTold := List.mem_of_getElem? (i := 1) rfl
theorem lkX0_leftIfTold_2 : Cond.fieldLink RX0 9 "StripInFiveSteps$Shed" "weights" "[I" ∈ wsX0_leftIfTold := List.mem_of_getElem? (i := 2) rfl
theorem lkX0_leftIfTold_3 : Cond.fieldLink RX0 22 "StripInFiveSteps$Shed" "eyeKind" "I" ∈ wsX0_leftIfTold := List.mem_of_getElem? (i := 3) rfl
theorem lkX0_leftIfTold_4 : Cond.fieldLink RX0 15 "StripInFiveSteps$Shed" "numbers" "[I" ∈ wsX0_leftIfTold := List.mem_of_getElem? (i := 4) rfl
theorem kX0_leftIfTold : Cal yX0_leftIfTold wsX0_leftIfTold cX0_leftIfTold 7 (some .long) 3 := ⟨⟨_, rfl⟩, by decide +kernel⟩
set_option maxHeartbeats 4000000 in
set_option maxRecDepth 100000 in
theorem c_X0_leftIfTold (l : Launch) (g : EE) (h0 : Nat) (h1 : Nat) (h2 : Nat) (W : Nat → Nat) (B : Nat → Nat) (sk : Nat) (ek : Nat) (tr : Nat) (h3 : Nat) (h4 : Nat) (q : Nat → Nat) (n : Nat) (v : Nat) (k : Nat) (hW : ∀ j, W j ≤ 9) (hB : okB B) (hsk : sk ≤ 3) (hek : ek ≤ 4) (hv : v ≤ 40) (hk : k < 1000) : CL l yX0_leftIfTold wsX0_leftIfTold ({ frames := 3, cells := 0, slots := 0, locals := 72 }) g [.ref h0, .ref h3, .int (nI v), .int (nI k)] [(h0, .inr (0, [.ref h1, .ref h2, .int (nI sk), .int (nI ek), .int (nI tr)])), (h1, .inl (eI g, 41, .inl (fun j => nI (W j)))), (h2, .inl (eI g, 5, .inl (fun j => nI (B j)))), (h3, .inr (1, [.ref h4, .int (nI n)])), (h4, .inl (eI g, 7, .inl (fun j => nI (q j))))] (fun (rz : Int64) (wz : va_W) => rz = (toldM W B sk ek v k) ∧ wz = [(h0, .inr (0, [.ref h1, .ref h2, .int (nI sk), .int (nI ek), .int (nI tr)])), (h1, .inl (eI g, 41, .inl (fun j => nI (W j)))), (h2, .inl (eI g, 5, .inl (fun j => nI (B j)))), (h3, .inr (1, [.ref h4, .int (nI (B 0))])), (h4, .inl (eI g, 7, .inl (fun j => nI ((layQ sk (B 0) (B 1) v q (B 0)) j))))]) 0 0 := by
  refine ctL (cc := cX0_leftIfTold) (maxL := 7) (ret := (some .long)) (by decide) rfl (Nat.le_of_ble_eq_true rfl) ?_
  intro p_ e_ s_ m_ bl_ mt_ cd_ A ls F hnm hP hD hS hl
  obtain ⟨hx, hb, hml, hown, hts, hK, hX, hA, hrt_, hlocks⟩ := id F
  have hl : lv_has ls 7 [(0, .ref h0), (1, .ref h3), (2, .int (nI v)), (3, .int (nI k))] := hl
  obtain ⟨hb0, hb1, hb2, hb3, hb4, hb5⟩ := okB_b hB
  refine lv_lconst (v := lN 0) hx hb dX0_leftIfTold_0 rfl ?_
  refine lv_lstore (lv' := [(4, .long (lN 0)), (0, .ref h0), (1, .ref h3), (2, .int (nI v)), (3, .int (nI k))]) hx hb dX0_leftIfTold_1 hl (by decide) rfl (fun ls hl => ?_)
  refine lv_aload_n hx hb dX0_leftIfTold_3 rfl (lv_at hl 2 rfl) ?_
  refine lv_aload_n hx hb dX0_leftIfTold_4 rfl (lv_at hl 1 rfl) ?_
  refine lv_aload_n hx hb dX0_leftIfTold_5 rfl (lv_at hl 1 rfl) ?_
  refine xget F hP inX0_leftIfTold_X0 0 rfl rfl 2 (by decide) lkX0_leftIfTold_1 rfl dX0_leftIfTold_6 ?_
  refine lv_iload_n hx hb dX0_leftIfTold_9 rfl (lv_at hl 3 rfl) ?_
  refine cVV (As := [.ref h0, .int (nI sk), .int (nI v)]) (rest := []) F (c_X1_lay l g h3 h4 h0 h1 h2 q n B sk ek tr sk v (hsk) (hv) (by omega) (by omega) (by omega)) kX1_lay rfl gX0_leftIfTold_X1_lay rfl rfl ⟨Nat.le_of_ble_eq_true rfl, Nat.le_of_ble_eq_true rfl⟩ hP hD hS [3, 4, 0, 2] [1] rfl rfl 0 rfl rfl hl.1 rfl rfl (Nat.le_of_ble_eq_true rfl) dX0_leftIfTold_10 ⟨Nat.le_of_ble_eq_true rfl, Nat.le_of_ble_eq_true rfl⟩ (fun w1 H locs hpo hP hD hS => ?_)
  subst hpo
  obtain ⟨hP, hD⟩ := nx (ws' := [(h0, .inr (0, [.ref h1, .ref h2, .int (nI sk), .int (nI ek), .int (nI tr)])), (h1, .inl (eI g, 41, .inl (fun j => nI (W j)))), (h2, .inl (eI g, 5, .inl (fun j => nI (B j)))), (h3, .inr (1, [.ref h4, .int (nI (B 0))])), (h4, .inl (eI g, 7, .inl (fun j => nI ((layQ sk (B 0) (B 1) v q (B 0)) j))))]) hP hD [3, 0, 4, 1, 2] (ndB_ok _ rfl) rfl
  refine lv_iconst (v := (nI 1)) hx hb dX0_leftIfTold_13 (by decide) ?_
  refine lv_istore (lv' := [(6, .int (nI 1)), (4, .long (lN 0)), (0, .ref h0), (1, .ref h3), (2, .int (nI v)), (3, .int (nI k))]) hx hb dX0_leftIfTold_14 hl (by decide) rfl (fun ls hl => ?_)
  refine xlo (σ := Nat × Int64) 7 (fun xz_ => (fun (i : Nat) (x : Int64) => [(0, .ref h0), (1, .ref h3), (2, .int (nI v)), (3, .int (nI k)), (4, .long x), (6, .int (nI i))]) xz_.1 xz_.2) (fun xz_ => (fun (i : Nat) (x : Int64) => [(h0, .inr (0, [.ref h1, .ref h2, .int (nI sk), .int (nI ek), .int (nI tr)])), (h1, .inl (eI g, 41, .inl (fun j => nI (W j)))), (h2, .inl (eI g, 5, .inl (fun j => nI (B j)))), (h3, .inr (1, [.ref h4, .int (nI (B 0))])), (h4, .inl (eI g, 7, .inl (fun j => nI ((layQ sk (B 0) (B 1) v q (B 0)) j))))]) xz_.1 xz_.2) (fun xz_ => (fun (i : Nat) (x : Int64) => x = mskP (fun r => decide (W r ≠ 0) && decide (tl (B 0) (B 1) (B 2) sk ek v r = k)) (i - 1) ∧ 1 ≤ i ∧ i ≤ 41) xz_.1 xz_.2) (fun xz_ => (fun (i : Nat) (x : Int64) => 41 - i) xz_.1 xz_.2) (fun xz_ hI ih16 H locs ls hP hD hS hl => ?_) (1, (lN 0)) (show (lN 0) = mskP (fun r => decide (W r ≠ 0) && decide (tl (B 0) (B 1) (B 2) sk ek v r = k)) (1 - 1) ∧ 1 ≤ 1 ∧ 1 ≤ 41 from (⟨rfl, by omega, by omega⟩)) hP hD hS (lv_sub hl [2, 3, 4, 5, 1, 0] rfl)
  obtain ⟨i, x⟩ := xz_
  have hP : va_P (eD g) vwCl [(h0, .inr (0, [.ref h1, .ref h2, .int (nI sk), .int (nI ek), .int (nI tr)])), (h1, .inl (eI g, 41, .inl (fun j => nI (W j)))), (h2, .inl (eI g, 5, .inl (fun j => nI (B j)))), (h3, .inr (1, [.ref h4, .int (nI (B 0))])), (h4, .inl (eI g, 7, .inl (fun j => nI ((layQ sk (B 0) (B 1) v q (B 0)) j))))] H := hP
  have hD : va_D A [(h0, .inr (0, [.ref h1, .ref h2, .int (nI sk), .int (nI ek), .int (nI tr)])), (h1, .inl (eI g, 41, .inl (fun j => nI (W j)))), (h2, .inl (eI g, 5, .inl (fun j => nI (B j)))), (h3, .inr (1, [.ref h4, .int (nI (B 0))])), (h4, .inl (eI g, 7, .inl (fun j => nI ((layQ sk (B 0) (B 1) v q (B 0)) j))))] := hD
  have hl : lv_has ls 7 [(0, .ref h0), (1, .ref h3), (2, .int (nI v)), (3, .int (nI k)), (4, .long x), (6, .int (nI i))] := hl
  have hI16 : x = mskP (fun r => decide (W r ≠ 0) && decide (tl (B 0) (B 1) (B 2) sk ek v r = k)) (i - 1) ∧ 1 ≤ i ∧ i ≤ 41 := hI
  clear hI
  obtain ⟨hx0, hi1, hi2⟩ := id hI16
  refine lv_iload hx hb dX0_leftIfTold_16 (lv_at hl 5 rfl) ?_
  refine lv_bipush (v := (nI 40)) hx hb dX0_leftIfTold_18 (by decide) ?_
  refine xgt (tgt := 68) hx hb dX0_leftIfTold_20 (by decide) (by omega) (by omega) (fun c20 => ?_) (fun c20 => ?_)
  · skip
    refine lv_lload hx hb dX0_leftIfTold_68 (lv_at hl 4 rfl) ?_
    exact rtL F hP hD hS dX0_leftIfTold_70 (⟨by rw [hx0, show i - 1 = 40 by omega]; rfl, rfl⟩)
  · skip
    refine lv_aload_n hx hb dX0_leftIfTold_23 rfl (lv_at hl 0 rfl) ?_
    refine xget F hP inX0_leftIfTold_X0 0 rfl rfl 0 (by decide) lkX0_leftIfTold_2 rfl dX0_leftIfTold_24 ?_
    refine lv_iload hx hb dX0_leftIfTold_27 (lv_at hl 5 rfl) ?_
    refine xald F hP 1 (v := (nI (W i))) rfl (by omega) (by omega) rfl dX0_leftIfTold_29 ?_
    have hbd2 := hW (i)
    refine zle (tgt := 62) hx hb dX0_leftIfTold_30 (by decide) (by omega) (fun c30 => ?_) (fun c30 => ?_)
    · skip
      refine lv_iinc (v := (nI (i + 1))) (lv' := [(6, .int (nI (i + 1))), (0, .ref h0), (1, .ref h3), (2, .int (nI v)), (3, .int (nI k)), (4, .long x)]) hx hb dX0_leftIfTold_62 hl (k := 5) rfl (iincP i 1) (by decide) rfl (fun ls hl => ?_)
      refine lv_goto (tgt := 16) hx hb dX0_leftIfTold_65 (by decide) ?_
      exact ih16 (i + 1, x) (show x = mskP (fun r => decide (W r ≠ 0) && decide (tl (B 0) (B 1) (B 2) sk ek v r = k)) ((i + 1) - 1) ∧ 1 ≤ (i + 1) ∧ (i + 1) ≤ 41 from (⟨by rw [hx0]; exact (mskP_off (by omega) (by simp [c30])).symm, by omega, by omega⟩)) (show 41 - (i + 1) < 41 - i from (by omega)) _ _ _ hP hD hS (lv_sub hl [1, 2, 3, 4, 5, 0] rfl)
    · skip
      refine lv_aload_n hx hb dX0_leftIfTold_33 rfl (lv_at hl 1 rfl) ?_
      refine lv_aload_n hx hb dX0_leftIfTold_34 rfl (lv_at hl 0 rfl) ?_
      refine xget F hP inX0_leftIfTold_X0 0 rfl rfl 3 (by decide) lkX0_leftIfTold_3 rfl dX0_leftIfTold_35 ?_
      refine lv_aload_n hx hb dX0_leftIfTold_38 rfl (lv_at hl 0 rfl) ?_
      refine xget F hP inX0_leftIfTold_X0 0 rfl rfl 1 (by decide) lkX0_leftIfTold_4 rfl dX0_leftIfTold_39 ?_
      refine lv_iconst (v := (nI 2)) hx hb dX0_leftIfTold_42 (by decide) ?_
      refine xald F hP 2 (v := (nI (B 2))) rfl (by omega) (by omega) rfl dX0_leftIfTold_43 ?_
      refine lv_iload hx hb dX0_leftIfTold_44 (lv_at hl 5 rfl) ?_
      refine cVI (As := [.int (nI ek), .int (nI (B 2)), .int (nI i)]) (rest := []) F (c_X1_tell l g h3 h4 (layQ sk (B 0) (B 1) v q (B 0)) (B 0) ek (B 2) i (by omega) (by omega) (layQ_b) (hek) (by omega) (by omega)) kX1_tell rfl gX0_leftIfTold_X1_tell rfl rfl ⟨Nat.le_of_ble_eq_true rfl, Nat.le_of_ble_eq_true rfl⟩ hP hD hS [3, 4] [0, 1, 2] rfl rfl 0 rfl rfl hl.1 rfl rfl (Nat.le_of_ble_eq_true rfl) dX0_leftIfTold_46 ⟨Nat.le_of_ble_eq_true rfl, Nat.le_of_ble_eq_true rfl⟩ (fun rz w1 H locs hpo hP hD hS => ?_)
      obtain ⟨rfl, rfl⟩ := hpo
      obtain ⟨hP, hD⟩ := nx (ws' := [(h0, .inr (0, [.ref h1, .ref h2, .int (nI sk), .int (nI ek), .int (nI tr)])), (h1, .inl (eI g, 41, .inl (fun j => nI (W j)))), (h2, .inl (eI g, 5, .inl (fun j => nI (B j)))), (h3, .inr (1, [.ref h4, .int (nI (B 0))])), (h4, .inl (eI g, 7, .inl (fun j => nI ((layQ sk (B 0) (B 1) v q (B 0)) j))))]) hP hD [0, 1, 2, 3, 4] (ndB_ok _ rfl) rfl
      refine sti (congrArg nI (show tellQ (layQ sk (B 0) (B 1) v q (B 0)) (B 0) ek (B 2) i = tl (B 0) (B 1) (B 2) sk ek v i from tell_lay (by omega))) ?_
      have htb := tl_b (st := B 1) (fg := B 2) (sk := sk) (ek := ek) (v := v) (r := i) (show 1 ≤ B 0 by omega)
      refine lv_iload_n hx hb dX0_leftIfTold_49 rfl (lv_at hl 3 rfl) ?_
      refine xne (tgt := 62) hx hb dX0_leftIfTold_50 (by decide) (by omega) (by omega) (fun c50 => ?_) (fun c50 => ?_)
      · skip
        refine lv_iinc (v := (nI (i + 1))) (lv' := [(6, .int (nI (i + 1))), (0, .ref h0), (1, .ref h3), (2, .int (nI v)), (3, .int (nI k)), (4, .long x)]) hx hb dX0_leftIfTold_62 hl (k := 5) rfl (iincP i 1) (by decide) rfl (fun ls hl => ?_)
        refine lv_goto (tgt := 16) hx hb dX0_leftIfTold_65 (by decide) ?_
        exact ih16 (i + 1, x) (show x = mskP (fun r => decide (W r ≠ 0) && decide (tl (B 0) (B 1) (B 2) sk ek v r = k)) ((i + 1) - 1) ∧ 1 ≤ (i + 1) ∧ (i + 1) ≤ 41 from (⟨by rw [hx0]; exact (mskP_off (by omega) (by simp [c30, c50])).symm, by omega, by omega⟩)) (show 41 - (i + 1) < 41 - i from (by omega)) _ _ _ hP hD hS (lv_sub hl [1, 2, 3, 4, 5, 0] rfl)
      · skip
        refine lv_lload hx hb dX0_leftIfTold_53 (lv_at hl 4 rfl) ?_
        refine lv_lconst (v := lN 1) hx hb dX0_leftIfTold_55 rfl ?_
        refine lv_iload hx hb dX0_leftIfTold_56 (lv_at hl 5 rfl) ?_
        refine lv_lshl hx hb dX0_leftIfTold_58 rfl ?_
        refine lv_lor hx hb dX0_leftIfTold_59 ?_
        refine lv_lstore (lv' := [(4, .long (x ||| ((lN 1) <<< (((nI i)).toInt64 &&& 63)))), (0, .ref h0), (1, .ref h3), (2, .int (nI v)), (3, .int (nI k)), (6, .int (nI i))]) hx hb dX0_leftIfTold_60 hl (by decide) rfl (fun ls hl => ?_)
        refine lv_iinc (v := (nI (i + 1))) (lv' := [(6, .int (nI (i + 1))), (4, .long (x ||| ((lN 1) <<< (((nI i)).toInt64 &&& 63)))), (0, .ref h0), (1, .ref h3), (2, .int (nI v)), (3, .int (nI k))]) hx hb dX0_leftIfTold_62 hl (k := 5) rfl (iincP i 1) (by decide) rfl (fun ls hl => ?_)
        refine lv_goto (tgt := 16) hx hb dX0_leftIfTold_65 (by decide) ?_
        exact ih16 (i + 1, (x ||| ((lN 1) <<< (((nI i)).toInt64 &&& 63)))) (show (x ||| ((lN 1) <<< (((nI i)).toInt64 &&& 63))) = mskP (fun r => decide (W r ≠ 0) && decide (tl (B 0) (B 1) (B 2) sk ek v r = k)) ((i + 1) - 1) ∧ 1 ≤ (i + 1) ∧ (i + 1) ≤ 41 from (⟨by rw [hx0]; exact (mskP_on (by omega) (by simp [c30, c50])).symm, by omega, by omega⟩)) (show 41 - (i + 1) < 41 - i from (by omega)) _ _ _ hP hD hS (lv_sub hl [2, 3, 4, 5, 1, 0] rfl)

theorem inX0_tryDownTo_X0 : ∀ w ∈ u_ws RX0 TX0 5, w ∈ wsX0_tryDownTo := fun _ h => (List.mem_cons_of_mem _ (List.mem_append_right _ h))
theorem lkX0_tryDownTo_2 : Cond.fieldLink RX0 25 "StripInFiveSteps$Shed" "tried" "I" ∈ wsX0_tryDownTo := List.mem_of_getElem? (i := 2) rfl
theorem lkX0_tryDownTo_4 : Cond.initialized RX4 ∈ wsX0_tryDownTo := List.mem_of_getElem? (i := 4) rfl
theorem lkX0_tryDownTo_3 : Cond.static yX4_holds ∈ wsX0_tryDownTo := List.mem_of_getElem? (i := 3) rfl
theorem lkX0_tryDownTo_1 : Cond.fieldLink RX0 9 "StripInFiveSteps$Shed" "weights" "[I" ∈ wsX0_tryDownTo := List.mem_of_getElem? (i := 1) rfl
theorem kX0_tryDownTo : Cal yX0_tryDownTo wsX0_tryDownTo cX0_tryDownTo 4 none 1 := ⟨⟨_, rfl⟩, by decide +kernel⟩
set_option maxHeartbeats 4000000 in
set_option maxRecDepth 100000 in
theorem c_X0_tryDownTo (l : Launch) (g : EE) (h0 : Nat) (h1 : Nat) (h2 : Nat) (W : Nat → Nat) (B : Nat → Nat) (sk : Nat) (ek : Nat) (tr : Nat) (x : Int64)  : CV l yX0_tryDownTo wsX0_tryDownTo ({ frames := 1, cells := 0, slots := 0, locals := 22 }) g [.ref h0, .long x] [(h0, .inr (0, [.ref h1, .ref h2, .int (nI sk), .int (nI ek), .int (nI tr)])), (h1, .inl (eI g, 41, .inl (fun j => nI (W j)))), (h2, .inl (eI g, 5, .inl (fun j => nI (B j))))] (fun (wz : va_W) => wz = [(h0, .inr (0, [.ref h1, .ref h2, .int (nI sk), .int (nI ek), .int (nI (tr + 1))])), (h1, .inl (eI g, 41, .inl (fun j => nI ((cutN W (bitL x) 40) j)))), (h2, .inl (eI g, 5, .inl (fun j => nI (B j))))]) 0 0 := by
  refine ctV (cc := cX0_tryDownTo) (maxL := 4) (ret := none) (by decide) rfl (Nat.le_of_ble_eq_true rfl) ?_
  intro p_ e_ s_ m_ bl_ mt_ cd_ A ls F hnm hP hD hS hl
  obtain ⟨hx, hb, hml, hown, hts, hK, hX, hA, hrt_, hlocks⟩ := id F
  have hl : lv_has ls 4 [(0, .ref h0), (1, .long x)] := hl
  refine lv_iconst (v := (nI 1)) hx hb dX0_tryDownTo_0 (by decide) ?_
  refine lv_istore_n (lv' := [(3, .int (nI 1)), (0, .ref h0), (1, .long x)]) hx hb dX0_tryDownTo_1 rfl hl (by decide) rfl (fun ls hl => ?_)
  refine xlo (σ := Nat × (Nat → Nat)) 4 (fun xz_ => (fun (i : Nat) (V : Nat → Nat) => [(0, .ref h0), (1, .long x), (3, .int (nI i))]) xz_.1 xz_.2) (fun xz_ => (fun (i : Nat) (V : Nat → Nat) => [(h0, .inr (0, [.ref h1, .ref h2, .int (nI sk), .int (nI ek), .int (nI tr)])), (h1, .inl (eI g, 41, .inl (fun j => nI (V j)))), (h2, .inl (eI g, 5, .inl (fun j => nI (B j))))]) xz_.1 xz_.2) (fun xz_ => (fun (i : Nat) (V : Nat → Nat) => V = cutN W (bitL x) (i - 1) ∧ 1 ≤ i ∧ i ≤ 41) xz_.1 xz_.2) (fun xz_ => (fun (i : Nat) (V : Nat → Nat) => 41 - i) xz_.1 xz_.2) (fun xz_ hI ih2 H locs ls hP hD hS hl => ?_) (1, W) (show W = cutN W (bitL x) (1 - 1) ∧ 1 ≤ 1 ∧ 1 ≤ 41 from (⟨(cutN_0 _ _).symm, by omega, by omega⟩)) hP hD hS (lv_sub hl [1, 2, 0] rfl)
  obtain ⟨i, V⟩ := xz_
  have hP : va_P (eD g) vwCl [(h0, .inr (0, [.ref h1, .ref h2, .int (nI sk), .int (nI ek), .int (nI tr)])), (h1, .inl (eI g, 41, .inl (fun j => nI (V j)))), (h2, .inl (eI g, 5, .inl (fun j => nI (B j))))] H := hP
  have hD : va_D A [(h0, .inr (0, [.ref h1, .ref h2, .int (nI sk), .int (nI ek), .int (nI tr)])), (h1, .inl (eI g, 41, .inl (fun j => nI (V j)))), (h2, .inl (eI g, 5, .inl (fun j => nI (B j))))] := hD
  have hl : lv_has ls 4 [(0, .ref h0), (1, .long x), (3, .int (nI i))] := hl
  have hI2 : V = cutN W (bitL x) (i - 1) ∧ 1 ≤ i ∧ i ≤ 41 := hI
  clear hI
  obtain ⟨hV, hi1, hi2⟩ := id hI2
  refine lv_iload_n hx hb dX0_tryDownTo_2 rfl (lv_at hl 2 rfl) ?_
  refine lv_bipush (v := (nI 40)) hx hb dX0_tryDownTo_3 (by decide) ?_
  refine xgt (tgt := 29) hx hb dX0_tryDownTo_5 (by decide) (by omega) (by omega) (fun c5 => ?_) (fun c5 => ?_)
  · skip
    refine lv_aload_n hx hb dX0_tryDownTo_29 rfl (lv_at hl 0 rfl) ?_
    refine lv_dup hx hb dX0_tryDownTo_30 rfl ?_
    refine xget F hP inX0_tryDownTo_X0 0 rfl rfl 4 (by decide) lkX0_tryDownTo_2 rfl dX0_tryDownTo_31 ?_
    refine lv_iconst (v := (nI 1)) hx hb dX0_tryDownTo_34 (by decide) ?_
    refine xadd hx hb dX0_tryDownTo_35 ?_
    refine xput F hP hD hS inX0_tryDownTo_X0 tyX0 tyX0_ok nmX0 0 rfl rfl 4 (by decide) lkX0_tryDownTo_2 rfl rfl rfl (Nat.le_of_ble_eq_true rfl) dX0_tryDownTo_36 (fun H locs hP hD hS => ?_)
    have hP : va_P (eD g) vwCl [(h0, .inr (0, [.ref h1, .ref h2, .int (nI sk), .int (nI ek), .int (nI (tr + 1))])), (h1, .inl (eI g, 41, .inl (fun j => nI (V j)))), (h2, .inl (eI g, 5, .inl (fun j => nI (B j))))] H := hP
    have hD : va_D A [(h0, .inr (0, [.ref h1, .ref h2, .int (nI sk), .int (nI ek), .int (nI (tr + 1))])), (h1, .inl (eI g, 41, .inl (fun j => nI (V j)))), (h2, .inl (eI g, 5, .inl (fun j => nI (B j))))] := hD
    exact rtV F hP hD hS dX0_tryDownTo_39 (by rw [hV, show i - 1 = 40 by omega])
  · skip
    refine lv_lload_n hx hb dX0_tryDownTo_8 rfl (lv_at hl 1 rfl) ?_
    refine lv_iload_n hx hb dX0_tryDownTo_9 rfl (lv_at hl 2 rfl) ?_
    refine cTI (As := [.long x, .int (nI i)]) (rest := []) F (c_X4_holds l g x i (by omega)) kX4_holds ggX0_tryDownTo_X4_holds 4 rfl lkX0_tryDownTo_4 lkX0_tryDownTo_3 rfl rfl ⟨Nat.le_of_ble_eq_true rfl, Nat.le_of_ble_eq_true rfl⟩ hP hD hS [] [0, 1, 2] rfl rfl hl.1 rfl rfl (Nat.le_of_ble_eq_true rfl) dX0_tryDownTo_10 ⟨Nat.le_of_ble_eq_true rfl, Nat.le_of_ble_eq_true rfl⟩ (fun rz w1 H locs hpo hP hD hS => ?_)
    obtain ⟨rfl, rfl⟩ := hpo
    obtain ⟨hP, hD⟩ := nx (ws' := [(h0, .inr (0, [.ref h1, .ref h2, .int (nI sk), .int (nI ek), .int (nI tr)])), (h1, .inl (eI g, 41, .inl (fun j => nI (V j)))), (h2, .inl (eI g, 5, .inl (fun j => nI (B j))))]) hP hD [0, 1, 2] (ndB_ok _ rfl) rfl
    refine bqne (tgt := 23) hx hb dX0_tryDownTo_13 (by decide) (fun c13 => ?_) (fun c13 => ?_)
    · skip
      refine lv_iinc (v := (nI (i + 1))) (lv' := [(3, .int (nI (i + 1))), (0, .ref h0), (1, .long x)]) hx hb dX0_tryDownTo_23 hl (k := 2) rfl (iincP i 1) (by decide) rfl (fun ls hl => ?_)
      refine lv_goto (tgt := 2) hx hb dX0_tryDownTo_26 (by decide) ?_
      exact ih2 (i + 1, V) (show V = cutN W (bitL x) ((i + 1) - 1) ∧ 1 ≤ (i + 1) ∧ (i + 1) ≤ 41 from (⟨by rw [hV]; exact cut_stay1 (by omega) c13, by omega, by omega⟩)) (show 41 - (i + 1) < 41 - i from (by omega)) _ _ _ hP hD hS (lv_sub hl [1, 2, 0] rfl)
    · skip
      refine lv_aload_n hx hb dX0_tryDownTo_16 rfl (lv_at hl 0 rfl) ?_
      refine xget F hP inX0_tryDownTo_X0 0 rfl rfl 0 (by decide) lkX0_tryDownTo_1 rfl dX0_tryDownTo_17 ?_
      refine lv_iload_n hx hb dX0_tryDownTo_20 rfl (lv_at hl 2 rfl) ?_
      refine lv_iconst (v := (nI 0)) hx hb dX0_tryDownTo_21 (by decide) ?_
      refine xast F hP hD hS 1 (f' := fun j => nI ((updN V i 0) j)) rfl (by omega) (by omega) (upd_nI V i 0) dX0_tryDownTo_22 (fun H locs hP hD hS => ?_)
      have hP : va_P (eD g) vwCl [(h0, .inr (0, [.ref h1, .ref h2, .int (nI sk), .int (nI ek), .int (nI tr)])), (h1, .inl (eI g, 41, .inl (fun j => nI ((updN V i 0) j)))), (h2, .inl (eI g, 5, .inl (fun j => nI (B j))))] H := hP
      have hD : va_D A [(h0, .inr (0, [.ref h1, .ref h2, .int (nI sk), .int (nI ek), .int (nI tr)])), (h1, .inl (eI g, 41, .inl (fun j => nI ((updN V i 0) j)))), (h2, .inl (eI g, 5, .inl (fun j => nI (B j))))] := hD
      refine lv_iinc (v := (nI (i + 1))) (lv' := [(3, .int (nI (i + 1))), (0, .ref h0), (1, .long x)]) hx hb dX0_tryDownTo_23 hl (k := 2) rfl (iincP i 1) (by decide) rfl (fun ls hl => ?_)
      refine lv_goto (tgt := 2) hx hb dX0_tryDownTo_26 (by decide) ?_
      exact ih2 (i + 1, (updN V i 0)) (show (updN V i 0) = cutN W (bitL x) ((i + 1) - 1) ∧ 1 ≤ (i + 1) ∧ (i + 1) ≤ 41 from (⟨by rw [hV]; exact cut_zero1 (by omega) (by simpa using c13), by omega, by omega⟩)) (show 41 - (i + 1) < 41 - i from (by omega)) _ _ _ hP hD hS (lv_sub hl [1, 2, 0] rfl)

theorem inX0_faultsAt_X0 : ∀ w ∈ u_ws RX0 TX0 5, w ∈ wsX0_faultsAt := fun _ h => (List.mem_cons_of_mem _ (List.mem_append_right _ h))
theorem lkX0_faultsAt_6 : Cond.fieldLink RX0 15 "StripInFiveSteps$Shed" "numbers" "[I" ∈ wsX0_faultsAt := List.mem_of_getElem? (i := 6) rfl
theorem lkX0_faultsAt_8 : Cond.initialized RX4 ∈ wsX0_faultsAt := List.mem_of_getElem? (i := 8) rfl
theorem lkX0_faultsAt_7 : Cond.static yX4_holds ∈ wsX0_faultsAt := List.mem_of_getElem? (i := 7) rfl
theorem lkX0_faultsAt_1 : Cond.fieldLink RX0 9 "StripInFiveSteps$Shed" "weights" "[I" ∈ wsX0_faultsAt := List.mem_of_getElem? (i := 1) rfl
theorem lkX0_faultsAt_3 : Cond.static Lib.Math.abs.name ∈ wsX0_faultsAt := List.mem_of_getElem? (i := 3) rfl
theorem lkX0_faultsAt_4 : Cond.initialized "java/lang/Math" ∈ wsX0_faultsAt := List.mem_of_getElem? (i := 4) rfl
theorem lkX0_faultsAt_5 : Cond.code Lib.Math.abs.name Lib.Math.abs.code 1 (some .int) ∈ wsX0_faultsAt := List.mem_of_getElem? (i := 5) rfl
theorem lkX0_faultsAt_2 : Cond.methodLink RX0 60 Lib.Math.abs.name ∈ wsX0_faultsAt := List.mem_of_getElem? (i := 2) rfl
theorem kX0_faultsAt : Cal yX0_faultsAt wsX0_faultsAt cX0_faultsAt 7 (some .long) 2 := ⟨⟨_, rfl⟩, by decide +kernel⟩
set_option maxHeartbeats 4000000 in
set_option maxRecDepth 100000 in
theorem c_X0_faultsAt (l : Launch) (g : EE) (h0 : Nat) (h1 : Nat) (h2 : Nat) (W : Nat → Nat) (B : Nat → Nat) (sk : Nat) (ek : Nat) (tr : Nat) (v : Nat) (x : Int64) (hW : ∀ j, W j ≤ 9) (hv : v ≤ 40) (hB4 : B 4 ≤ 99) : CL l yX0_faultsAt wsX0_faultsAt ({ frames := 1, cells := 0, slots := 0, locals := 22 }) g [.ref h0, .int (nI v), .long x] [(h0, .inr (0, [.ref h1, .ref h2, .int (nI sk), .int (nI ek), .int (nI tr)])), (h1, .inl (eI g, 41, .inl (fun j => nI (W j)))), (h2, .inl (eI g, 5, .inl (fun j => nI (B j))))] (fun (rz : Int64) (wz : va_W) => rz = (lN (faS W (bitL x) v * B 4)) ∧ wz = [(h0, .inr (0, [.ref h1, .ref h2, .int (nI sk), .int (nI ek), .int (nI tr)])), (h1, .inl (eI g, 41, .inl (fun j => nI (W j)))), (h2, .inl (eI g, 5, .inl (fun j => nI (B j))))]) 0 0 := by
  refine ctL (cc := cX0_faultsAt) (maxL := 7) (ret := (some .long)) (by decide) rfl (Nat.le_of_ble_eq_true rfl) ?_
  intro p_ e_ s_ m_ bl_ mt_ cd_ A ls F hnm hP hD hS hl
  obtain ⟨hx, hb, hml, hown, hts, hK, hX, hA, hrt_, hlocks⟩ := id F
  have hl : lv_has ls 7 [(0, .ref h0), (1, .int (nI v)), (2, .long x)] := hl
  refine lv_lconst (v := lN 0) hx hb dX0_faultsAt_0 rfl ?_
  refine lv_lstore (lv' := [(4, .long (lN 0)), (0, .ref h0), (1, .int (nI v)), (2, .long x)]) hx hb dX0_faultsAt_1 hl (by decide) rfl (fun ls hl => ?_)
  refine lv_iconst (v := (nI 1)) hx hb dX0_faultsAt_3 (by decide) ?_
  refine lv_istore (lv' := [(6, .int (nI 1)), (4, .long (lN 0)), (0, .ref h0), (1, .int (nI v)), (2, .long x)]) hx hb dX0_faultsAt_4 hl (by decide) rfl (fun ls hl => ?_)
  refine xlo (σ := Nat × Nat) 7 (fun xz_ => (fun (i : Nat) (a : Nat) => [(0, .ref h0), (1, .int (nI v)), (2, .long x), (4, .long (lN a)), (6, .int (nI i))]) xz_.1 xz_.2) (fun xz_ => (fun (i : Nat) (a : Nat) => [(h0, .inr (0, [.ref h1, .ref h2, .int (nI sk), .int (nI ek), .int (nI tr)])), (h1, .inl (eI g, 41, .inl (fun j => nI (W j)))), (h2, .inl (eI g, 5, .inl (fun j => nI (B j))))]) xz_.1 xz_.2) (fun xz_ => (fun (i : Nat) (a : Nat) => a = sg (fun r => if bitL x r = true then W r * dst v r else 0) (i - 1) ∧ 1 ≤ i ∧ i ≤ 41) xz_.1 xz_.2) (fun xz_ => (fun (i : Nat) (a : Nat) => 41 - i) xz_.1 xz_.2) (fun xz_ hI ih6 H locs ls hP hD hS hl => ?_) (1, 0) (show 0 = sg (fun r => if bitL x r = true then W r * dst v r else 0) (1 - 1) ∧ 1 ≤ 1 ∧ 1 ≤ 41 from (⟨rfl, by omega, by omega⟩)) hP hD hS (lv_sub hl [2, 3, 4, 1, 0] rfl)
  obtain ⟨i, a⟩ := xz_
  have hP : va_P (eD g) vwCl [(h0, .inr (0, [.ref h1, .ref h2, .int (nI sk), .int (nI ek), .int (nI tr)])), (h1, .inl (eI g, 41, .inl (fun j => nI (W j)))), (h2, .inl (eI g, 5, .inl (fun j => nI (B j))))] H := hP
  have hD : va_D A [(h0, .inr (0, [.ref h1, .ref h2, .int (nI sk), .int (nI ek), .int (nI tr)])), (h1, .inl (eI g, 41, .inl (fun j => nI (W j)))), (h2, .inl (eI g, 5, .inl (fun j => nI (B j))))] := hD
  have hl : lv_has ls 7 [(0, .ref h0), (1, .int (nI v)), (2, .long x), (4, .long (lN a)), (6, .int (nI i))] := hl
  have hI6 : a = sg (fun r => if bitL x r = true then W r * dst v r else 0) (i - 1) ∧ 1 ≤ i ∧ i ≤ 41 := hI
  clear hI
  obtain ⟨ha, hi1, hi2⟩ := id hI6
  refine lv_iload hx hb dX0_faultsAt_6 (lv_at hl 4 rfl) ?_
  refine lv_bipush (v := (nI 40)) hx hb dX0_faultsAt_8 (by decide) ?_
  refine xgt (tgt := 49) hx hb dX0_faultsAt_10 (by decide) (by omega) (by omega) (fun c10 => ?_) (fun c10 => ?_)
  · skip
    refine lv_lload hx hb dX0_faultsAt_49 (lv_at hl 3 rfl) ?_
    refine lv_aload_n hx hb dX0_faultsAt_51 rfl (lv_at hl 0 rfl) ?_
    refine xget F hP inX0_faultsAt_X0 0 rfl rfl 1 (by decide) lkX0_faultsAt_6 rfl dX0_faultsAt_52 ?_
    refine lv_iconst (v := (nI 4)) hx hb dX0_faultsAt_55 (by decide) ?_
    refine xald F hP 2 (v := (nI (B 4))) rfl (by omega) (by omega) rfl dX0_faultsAt_56 ?_
    refine lv_i2l (v := lN (B 4)) hx hb dX0_faultsAt_57 (nI_l (by omega)) ?_
    refine xlmul hx hb dX0_faultsAt_58 ?_
    exact rtL F hP hD hS dX0_faultsAt_59 (⟨by rw [ha, show i - 1 = 40 by omega]; rfl, rfl⟩)
  · skip
    refine lv_lload_n hx hb dX0_faultsAt_13 rfl (lv_at hl 2 rfl) ?_
    refine lv_iload hx hb dX0_faultsAt_14 (lv_at hl 4 rfl) ?_
    refine cTI (As := [.long x, .int (nI i)]) (rest := []) F (c_X4_holds l g x i (by omega)) kX4_holds ggX0_faultsAt_X4_holds 4 rfl lkX0_faultsAt_8 lkX0_faultsAt_7 rfl rfl ⟨Nat.le_of_ble_eq_true rfl, Nat.le_of_ble_eq_true rfl⟩ hP hD hS [] [0, 1, 2] rfl rfl hl.1 rfl rfl (Nat.le_of_ble_eq_true rfl) dX0_faultsAt_16 ⟨Nat.le_of_ble_eq_true rfl, Nat.le_of_ble_eq_true rfl⟩ (fun rz w1 H locs hpo hP hD hS => ?_)
    obtain ⟨rfl, rfl⟩ := hpo
    obtain ⟨hP, hD⟩ := nx (ws' := [(h0, .inr (0, [.ref h1, .ref h2, .int (nI sk), .int (nI ek), .int (nI tr)])), (h1, .inl (eI g, 41, .inl (fun j => nI (W j)))), (h2, .inl (eI g, 5, .inl (fun j => nI (B j))))]) hP hD [0, 1, 2] (ndB_ok _ rfl) rfl
    refine bqeq (tgt := 43) hx hb dX0_faultsAt_19 (by decide) (fun c19 => ?_) (fun c19 => ?_)
    · skip
      refine lv_iinc (v := (nI (i + 1))) (lv' := [(6, .int (nI (i + 1))), (0, .ref h0), (1, .int (nI v)), (2, .long x), (4, .long (lN a))]) hx hb dX0_faultsAt_43 hl (k := 4) rfl (iincP i 1) (by decide) rfl (fun ls hl => ?_)
      refine lv_goto (tgt := 6) hx hb dX0_faultsAt_46 (by decide) ?_
      exact ih6 (i + 1, a) (show a = sg (fun r => if bitL x r = true then W r * dst v r else 0) ((i + 1) - 1) ∧ 1 ≤ (i + 1) ∧ (i + 1) ≤ 41 from (⟨by rw [ha]; exact (sg_skip (by omega) (by simp [c19])).symm, by omega, by omega⟩)) (show 41 - (i + 1) < 41 - i from (by omega)) _ _ _ hP hD hS (lv_sub hl [1, 2, 3, 4, 0] rfl)
    · skip
      refine lv_lload hx hb dX0_faultsAt_22 (lv_at hl 3 rfl) ?_
      refine lv_aload_n hx hb dX0_faultsAt_24 rfl (lv_at hl 0 rfl) ?_
      refine xget F hP inX0_faultsAt_X0 0 rfl rfl 0 (by decide) lkX0_faultsAt_1 rfl dX0_faultsAt_25 ?_
      refine lv_iload hx hb dX0_faultsAt_28 (lv_at hl 4 rfl) ?_
      refine xald F hP 1 (v := (nI (W i))) rfl (by omega) (by omega) rfl dX0_faultsAt_30 ?_
      have hbd2 := hW (i)
      refine lv_iload_n hx hb dX0_faultsAt_31 rfl (lv_at hl 1 rfl) ?_
      refine lv_iload hx hb dX0_faultsAt_32 (lv_at hl 4 rfl) ?_
      refine lv_isub hx hb dX0_faultsAt_34 ?_
      refine xabs F hl.1 lkX0_faultsAt_2 lkX0_faultsAt_3 lkX0_faultsAt_4 lkX0_faultsAt_5 (Nat.le_of_ble_eq_true rfl) (Nat.le_of_ble_eq_true rfl) ⟨Nat.le_of_ble_eq_true rfl, Nat.le_of_ble_eq_true rfl⟩ (by omega) (by omega) dX0_faultsAt_35 ?_
      refine xmul hx hb dX0_faultsAt_38 ?_
      refine lv_i2l (v := lN ((W i) * (dst v i))) hx hb dX0_faultsAt_39 (nI_l (by have := mul_le_c (hW i) (dst_le hv (show i ≤ 40 by omega)); omega)) ?_
      refine xladd hx hb dX0_faultsAt_40 ?_
      refine lv_lstore (lv' := [(4, .long (lN (a + ((W i) * (dst v i))))), (0, .ref h0), (1, .int (nI v)), (2, .long x), (6, .int (nI i))]) hx hb dX0_faultsAt_41 hl (by decide) rfl (fun ls hl => ?_)
      refine lv_iinc (v := (nI (i + 1))) (lv' := [(6, .int (nI (i + 1))), (4, .long (lN (a + ((W i) * (dst v i))))), (0, .ref h0), (1, .int (nI v)), (2, .long x)]) hx hb dX0_faultsAt_43 hl (k := 4) rfl (iincP i 1) (by decide) rfl (fun ls hl => ?_)
      refine lv_goto (tgt := 6) hx hb dX0_faultsAt_46 (by decide) ?_
      exact ih6 (i + 1, a + ((W i) * (dst v i))) (show (a + ((W i) * (dst v i))) = sg (fun r => if bitL x r = true then W r * dst v r else 0) ((i + 1) - 1) ∧ 1 ≤ (i + 1) ∧ (i + 1) ≤ 41 from (⟨by rw [ha]; exact (sg_step (by omega) (by simp [c19])).symm, by omega, by omega⟩)) (show 41 - (i + 1) < 41 - i from (by omega)) _ _ _ hP hD hS (lv_sub hl [2, 3, 4, 1, 0] rfl)

theorem kX0_sheetFor : Cal yX0_sheetFor wsX0_sheetFor cX0_sheetFor 9 (some .int) 1 := ⟨⟨_, rfl⟩, by decide +kernel⟩
set_option maxHeartbeats 4000000 in
set_option maxRecDepth 100000 in
theorem c_X0_sheetFor (l : Launch) (g : EE) (h0 : Nat) (h1 : Nat) (h2 : Nat) (W : Nat → Nat) (B : Nat → Nat) (sk : Nat) (ek : Nat) (tr : Nat) (x : Int64) (hW : ∀ j, W j ≤ 9) (hB4 : B 4 ≤ 99) : CI l yX0_sheetFor wsX0_sheetFor ({ frames := 2, cells := 0, slots := 0, locals := 48 }) g [.ref h0, .long x] [(h0, .inr (0, [.ref h1, .ref h2, .int (nI sk), .int (nI ek), .int (nI tr)])), (h1, .inl (eI g, 41, .inl (fun j => nI (W j)))), (h2, .inl (eI g, 5, .inl (fun j => nI (B j))))] (fun (rz : Int32) (wz : va_W) => rz = (nI (giS W (bitL x) (B 4))) ∧ wz = [(h0, .inr (0, [.ref h1, .ref h2, .int (nI sk), .int (nI ek), .int (nI tr)])), (h1, .inl (eI g, 41, .inl (fun j => nI (W j)))), (h2, .inl (eI g, 5, .inl (fun j => nI (B j))))]) 0 0 := by
  refine ctI (cc := cX0_sheetFor) (maxL := 9) (ret := (some .int)) (by decide) rfl (Nat.le_of_ble_eq_true rfl) ?_
  intro p_ e_ s_ m_ bl_ mt_ cd_ A ls F hnm hP hD hS hl
  obtain ⟨hx, hb, hml, hown, hts, hK, hX, hA, hrt_, hlocks⟩ := id F
  have hl : lv_has ls 9 [(0, .ref h0), (1, .long x)] := hl
  refine lv_iconst (v := (nI 1)) hx hb dX0_sheetFor_0 (by decide) ?_
  refine lv_istore_n (lv' := [(3, .int (nI 1)), (0, .ref h0), (1, .long x)]) hx hb dX0_sheetFor_1 rfl hl (by decide) rfl (fun ls hl => ?_)
  refine lv_aload_n hx hb dX0_sheetFor_2 rfl (lv_at hl 1 rfl) ?_
  refine lv_iconst (v := (nI 1)) hx hb dX0_sheetFor_3 (by decide) ?_
  refine lv_lload_n hx hb dX0_sheetFor_4 rfl (lv_at hl 2 rfl) ?_
  refine cVL (As := [.int (nI 1), .long x]) (rest := []) F (c_X0_faultsAt l g h0 h1 h2 W B sk ek tr 1 x (hW) (by omega) (hB4)) kX0_faultsAt rfl gX0_sheetFor_X0_faultsAt rfl rfl ⟨Nat.le_of_ble_eq_true rfl, Nat.le_of_ble_eq_true rfl⟩ hP hD hS [0, 1, 2] [] rfl rfl 0 rfl rfl hl.1 rfl rfl (Nat.le_of_ble_eq_true rfl) dX0_sheetFor_5 ⟨Nat.le_of_ble_eq_true rfl, Nat.le_of_ble_eq_true rfl⟩ (fun rz w1 H locs hpo hP hD hS => ?_)
  obtain ⟨rfl, rfl⟩ := hpo
  obtain ⟨hP, hD⟩ := nx (ws' := [(h0, .inr (0, [.ref h1, .ref h2, .int (nI sk), .int (nI ek), .int (nI tr)])), (h1, .inl (eI g, 41, .inl (fun j => nI (W j)))), (h2, .inl (eI g, 5, .inl (fun j => nI (B j))))]) hP hD [0, 1, 2] (ndB_ok _ rfl) rfl
  refine lv_lstore (lv' := [(4, .long (lN (faS W (bitL x) 1 * B 4))), (3, .int (nI 1)), (0, .ref h0), (1, .long x)]) hx hb dX0_sheetFor_8 hl (by decide) rfl (fun ls hl => ?_)
  refine lv_iconst (v := (nI 2)) hx hb dX0_sheetFor_10 (by decide) ?_
  refine lv_istore (lv' := [(6, .int (nI 2)), (4, .long (lN (faS W (bitL x) 1 * B 4))), (3, .int (nI 1)), (0, .ref h0), (1, .long x)]) hx hb dX0_sheetFor_11 hl (by decide) rfl (fun ls hl => ?_)
  refine xlo (σ := Nat × Nat) 9 (fun xz_ => (fun (i : Nat) (b : Nat) => [(0, .ref h0), (1, .long x), (3, .int (nI b)), (4, .long (lN (faS W (bitL x) b * B 4))), (6, .int (nI i))]) xz_.1 xz_.2) (fun xz_ => (fun (i : Nat) (b : Nat) => [(h0, .inr (0, [.ref h1, .ref h2, .int (nI sk), .int (nI ek), .int (nI tr)])), (h1, .inl (eI g, 41, .inl (fun j => nI (W j)))), (h2, .inl (eI g, 5, .inl (fun j => nI (B j))))]) xz_.1 xz_.2) (fun xz_ => (fun (i : Nat) (b : Nat) => b = am (fun v => ((faS W (bitL x) v * B 4 : Nat) : Int)) (i - 1) ∧ 2 ≤ i ∧ i ≤ 41) xz_.1 xz_.2) (fun xz_ => (fun (i : Nat) (b : Nat) => 41 - i) xz_.1 xz_.2) (fun xz_ hI ih13 H locs ls hP hD hS hl => ?_) (2, 1) (show 1 = am (fun v => ((faS W (bitL x) v * B 4 : Nat) : Int)) (2 - 1) ∧ 2 ≤ 2 ∧ 2 ≤ 41 from (⟨(am_1 _).symm, by omega, by omega⟩)) hP hD hS (lv_sub hl [3, 4, 2, 1, 0] rfl)
  obtain ⟨i, b⟩ := xz_
  have hP : va_P (eD g) vwCl [(h0, .inr (0, [.ref h1, .ref h2, .int (nI sk), .int (nI ek), .int (nI tr)])), (h1, .inl (eI g, 41, .inl (fun j => nI (W j)))), (h2, .inl (eI g, 5, .inl (fun j => nI (B j))))] H := hP
  have hD : va_D A [(h0, .inr (0, [.ref h1, .ref h2, .int (nI sk), .int (nI ek), .int (nI tr)])), (h1, .inl (eI g, 41, .inl (fun j => nI (W j)))), (h2, .inl (eI g, 5, .inl (fun j => nI (B j))))] := hD
  have hl : lv_has ls 9 [(0, .ref h0), (1, .long x), (3, .int (nI b)), (4, .long (lN (faS W (bitL x) b * B 4))), (6, .int (nI i))] := hl
  have hI13 : b = am (fun v => ((faS W (bitL x) v * B 4 : Nat) : Int)) (i - 1) ∧ 2 ≤ i ∧ i ≤ 41 := hI
  clear hI
  obtain ⟨hb0, hi1, hi2⟩ := id hI13
  have hbin := am_in (fun v => ((faS W (bitL x) v * B 4 : Nat) : Int)) (i - 1)
  rw [← hb0] at hbin
  refine lv_iload hx hb dX0_sheetFor_13 (lv_at hl 4 rfl) ?_
  refine lv_bipush (v := (nI 40)) hx hb dX0_sheetFor_15 (by decide) ?_
  refine xgt (tgt := 50) hx hb dX0_sheetFor_17 (by decide) (by omega) (by omega) (fun c17 => ?_) (fun c17 => ?_)
  · skip
    refine lv_iload_n hx hb dX0_sheetFor_50 rfl (lv_at hl 2 rfl) ?_
    exact rtI F hP hD hS dX0_sheetFor_51 (⟨by rw [hb0, show i - 1 = 40 by omega]; rfl, rfl⟩)
  · skip
    refine lv_aload_n hx hb dX0_sheetFor_20 rfl (lv_at hl 0 rfl) ?_
    refine lv_iload hx hb dX0_sheetFor_21 (lv_at hl 4 rfl) ?_
    refine lv_lload_n hx hb dX0_sheetFor_23 rfl (lv_at hl 1 rfl) ?_
    refine cVL (As := [.int (nI i), .long x]) (rest := []) F (c_X0_faultsAt l g h0 h1 h2 W B sk ek tr i x (hW) (by omega) (hB4)) kX0_faultsAt rfl gX0_sheetFor_X0_faultsAt rfl rfl ⟨Nat.le_of_ble_eq_true rfl, Nat.le_of_ble_eq_true rfl⟩ hP hD hS [0, 1, 2] [] rfl rfl 0 rfl rfl hl.1 rfl rfl (Nat.le_of_ble_eq_true rfl) dX0_sheetFor_24 ⟨Nat.le_of_ble_eq_true rfl, Nat.le_of_ble_eq_true rfl⟩ (fun rz w1 H locs hpo hP hD hS => ?_)
    obtain ⟨rfl, rfl⟩ := hpo
    obtain ⟨hP, hD⟩ := nx (ws' := [(h0, .inr (0, [.ref h1, .ref h2, .int (nI sk), .int (nI ek), .int (nI tr)])), (h1, .inl (eI g, 41, .inl (fun j => nI (W j)))), (h2, .inl (eI g, 5, .inl (fun j => nI (B j))))]) hP hD [0, 1, 2] (ndB_ok _ rfl) rfl
    refine lv_lstore (lv' := [(7, .long (lN (faS W (bitL x) i * B 4))), (0, .ref h0), (1, .long x), (3, .int (nI b)), (4, .long (lN (faS W (bitL x) b * B 4))), (6, .int (nI i))]) hx hb dX0_sheetFor_27 hl (by decide) rfl (fun ls hl => ?_)
    refine lv_lload hx hb dX0_sheetFor_29 (lv_at hl 0 rfl) ?_
    refine lv_lload hx hb dX0_sheetFor_31 (lv_at hl 4 rfl) ?_
    refine kge (tgt := 44) hx hb dX0_sheetFor_33 dX0_sheetFor_34 (by decide) (by have := faS_b hW (p := bitL x) (show i ≤ 40 by omega) hB4; omega) (by have := faS_b hW (p := bitL x) (show b ≤ 40 by omega) hB4; omega) (fun c34 => ?_) (fun c34 => ?_)
    · skip
      refine lv_iinc (v := (nI (i + 1))) (lv' := [(6, .int (nI (i + 1))), (7, .long (lN (faS W (bitL x) i * B 4))), (0, .ref h0), (1, .long x), (3, .int (nI b)), (4, .long (lN (faS W (bitL x) b * B 4)))]) hx hb dX0_sheetFor_44 hl (k := 5) rfl (iincP i 1) (by decide) rfl (fun ls hl => ?_)
      refine lv_goto (tgt := 13) hx hb dX0_sheetFor_47 (by decide) ?_
      exact ih13 (i + 1, b) (show b = am (fun v => ((faS W (bitL x) v * B 4 : Nat) : Int)) ((i + 1) - 1) ∧ 2 ≤ (i + 1) ∧ (i + 1) ≤ 41 from (⟨am_old (by omega) hb0 (by exact_mod_cast c34), by omega, by omega⟩)) (show 41 - (i + 1) < 41 - i from (by omega)) _ _ _ hP hD hS (lv_sub hl [2, 3, 4, 5, 0] rfl)
    · skip
      refine lv_lload hx hb dX0_sheetFor_37 (lv_at hl 0 rfl) ?_
      refine lv_lstore (lv' := [(4, .long (lN (faS W (bitL x) i * B 4))), (7, .long (lN (faS W (bitL x) i * B 4))), (0, .ref h0), (1, .long x), (3, .int (nI b)), (6, .int (nI i))]) hx hb dX0_sheetFor_39 hl (by decide) rfl (fun ls hl => ?_)
      refine lv_iload hx hb dX0_sheetFor_41 (lv_at hl 5 rfl) ?_
      refine lv_istore_n (lv' := [(3, .int (nI i)), (4, .long (lN (faS W (bitL x) i * B 4))), (7, .long (lN (faS W (bitL x) i * B 4))), (0, .ref h0), (1, .long x), (6, .int (nI i))]) hx hb dX0_sheetFor_43 rfl hl (by decide) rfl (fun ls hl => ?_)
      refine lv_iinc (v := (nI (i + 1))) (lv' := [(6, .int (nI (i + 1))), (3, .int (nI i)), (4, .long (lN (faS W (bitL x) i * B 4))), (7, .long (lN (faS W (bitL x) i * B 4))), (0, .ref h0), (1, .long x)]) hx hb dX0_sheetFor_44 hl (k := 5) rfl (iincP i 1) (by decide) rfl (fun ls hl => ?_)
      refine lv_goto (tgt := 13) hx hb dX0_sheetFor_47 (by decide) ?_
      exact ih13 (i + 1, i) (show i = am (fun v => ((faS W (bitL x) v * B 4 : Nat) : Int)) ((i + 1) - 1) ∧ 2 ≤ (i + 1) ∧ (i + 1) ≤ 41 from (⟨am_new (by omega) hb0 (by exact_mod_cast c34), by omega, by omega⟩)) (show 41 - (i + 1) < 41 - i from (by omega)) _ _ _ hP hD hS (lv_sub hl [4, 5, 1, 2, 0] rfl)

theorem kX0_leastFaults : Cal yX0_leastFaults wsX0_leastFaults cX0_leastFaults 3 (some .long) 1 := ⟨⟨_, rfl⟩, by decide +kernel⟩
set_option maxHeartbeats 4000000 in
set_option maxRecDepth 100000 in
theorem c_X0_leastFaults (l : Launch) (g : EE) (h0 : Nat) (h1 : Nat) (h2 : Nat) (W : Nat → Nat) (B : Nat → Nat) (sk : Nat) (ek : Nat) (tr : Nat) (x : Int64) (hW : ∀ j, W j ≤ 9) (hB4 : B 4 ≤ 99) : CL l yX0_leastFaults wsX0_leastFaults ({ frames := 3, cells := 0, slots := 0, locals := 76 }) g [.ref h0, .long x] [(h0, .inr (0, [.ref h1, .ref h2, .int (nI sk), .int (nI ek), .int (nI tr)])), (h1, .inl (eI g, 41, .inl (fun j => nI (W j)))), (h2, .inl (eI g, 5, .inl (fun j => nI (B j))))] (fun (rz : Int64) (wz : va_W) => rz = (lN (faS W (bitL x) (giS W (bitL x) (B 4)) * B 4)) ∧ wz = [(h0, .inr (0, [.ref h1, .ref h2, .int (nI sk), .int (nI ek), .int (nI tr)])), (h1, .inl (eI g, 41, .inl (fun j => nI (W j)))), (h2, .inl (eI g, 5, .inl (fun j => nI (B j))))]) 0 0 := by
  refine ctL (cc := cX0_leastFaults) (maxL := 3) (ret := (some .long)) (by decide) rfl (Nat.le_of_ble_eq_true rfl) ?_
  intro p_ e_ s_ m_ bl_ mt_ cd_ A ls F hnm hP hD hS hl
  obtain ⟨hx, hb, hml, hown, hts, hK, hX, hA, hrt_, hlocks⟩ := id F
  have hl : lv_has ls 3 [(0, .ref h0), (1, .long x)] := hl
  refine lv_aload_n hx hb dX0_leastFaults_0 rfl (lv_at hl 0 rfl) ?_
  refine lv_aload_n hx hb dX0_leastFaults_1 rfl (lv_at hl 0 rfl) ?_
  refine lv_lload_n hx hb dX0_leastFaults_2 rfl (lv_at hl 1 rfl) ?_
  refine cVI (As := [.long x]) (rest := [.ref h0]) F (c_X0_sheetFor l g h0 h1 h2 W B sk ek tr x (hW) (hB4)) kX0_sheetFor rfl gX0_leastFaults_X0_sheetFor rfl rfl ⟨Nat.le_of_ble_eq_true rfl, Nat.le_of_ble_eq_true rfl⟩ hP hD hS [0, 1, 2] [] rfl rfl 0 rfl rfl hl.1 rfl rfl (Nat.le_of_ble_eq_true rfl) dX0_leastFaults_3 ⟨Nat.le_of_ble_eq_true rfl, Nat.le_of_ble_eq_true rfl⟩ (fun rz w1 H locs hpo hP hD hS => ?_)
  obtain ⟨rfl, rfl⟩ := hpo
  obtain ⟨hP, hD⟩ := nx (ws' := [(h0, .inr (0, [.ref h1, .ref h2, .int (nI sk), .int (nI ek), .int (nI tr)])), (h1, .inl (eI g, 41, .inl (fun j => nI (W j)))), (h2, .inl (eI g, 5, .inl (fun j => nI (B j))))]) hP hD [0, 1, 2] (ndB_ok _ rfl) rfl
  refine lv_lload_n hx hb dX0_leastFaults_6 rfl (lv_at hl 1 rfl) ?_
  refine cVL (As := [.int (nI (giS W (bitL x) (B 4))), .long x]) (rest := []) F (c_X0_faultsAt l g h0 h1 h2 W B sk ek tr (giS W (bitL x) (B 4)) x (hW) ((giS_in _ _ _).2) (hB4)) kX0_faultsAt rfl gX0_leastFaults_X0_faultsAt rfl rfl ⟨Nat.le_of_ble_eq_true rfl, Nat.le_of_ble_eq_true rfl⟩ hP hD hS [0, 1, 2] [] rfl rfl 0 rfl rfl hl.1 rfl rfl (Nat.le_of_ble_eq_true rfl) dX0_leastFaults_7 ⟨Nat.le_of_ble_eq_true rfl, Nat.le_of_ble_eq_true rfl⟩ (fun rz w1 H locs hpo hP hD hS => ?_)
  obtain ⟨rfl, rfl⟩ := hpo
  obtain ⟨hP, hD⟩ := nx (ws' := [(h0, .inr (0, [.ref h1, .ref h2, .int (nI sk), .int (nI ek), .int (nI tr)])), (h1, .inl (eI g, 41, .inl (fun j => nI (W j)))), (h2, .inl (eI g, 5, .inl (fun j => nI (B j))))]) hP hD [0, 1, 2] (ndB_ok _ rfl) rfl
  exact rtL F hP hD hS dX0_leastFaults_10 (⟨rfl, rfl⟩)
