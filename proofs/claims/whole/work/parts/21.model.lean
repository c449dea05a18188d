theorem kX5_isNoSecond : Cal yX5_isNoSecond wsX5_isNoSecond cX5_isNoSecond 1 (some .boolean) 1 := ⟨⟨_, rfl⟩, by decide +kernel⟩
set_option maxHeartbeats 4000000 in
set_option maxRecDepth 100000 in
theorem n_X5_isNoSecond (l : Launch) (g : EE) (x : Nat) (hx0 : x < 2000000000) : CI l yX5_isNoSecond wsX5_isNoSecond ({ frames := 0, cells := 0, slots := 0, locals := 0 }) g [.int (nI x)] [] (fun (rz : Int32) (wz : va_W) => rz = (nI (if x < 1 ∨ 40 < x then 1 else 0)) ∧ wz = []) 0 0 := by
  refine ctI (cc := cX5_isNoSecond) (maxL := 1) (ret := (some .boolean)) (by decide) rfl (Nat.le_of_ble_eq_true rfl) ?_
  intro p_ e_ s_ m_ bl_ mt_ cd_ A ls F hnm hP hD hS hl
  obtain ⟨hx, hb, hml, hown, hts, hK, hX, hA, hrt_, hlocks⟩ := id F
  have hl : lv_has ls 1 [(0, .int (nI x))] := hl
  refine lv_iload_n hx hb dX5_isNoSecond_0 rfl (lv_at hl 0 rfl) ?_
  refine lv_iconst (v := (nI 1)) hx hb dX5_isNoSecond_1 (by decide) ?_
  refine xlt (tgt := 11) hx hb dX5_isNoSecond_2 (by decide) (by omega) (by omega) (fun c2 => ?_) (fun c2 => ?_)
  · skip
    refine lv_iconst (v := (nI 1)) hx hb dX5_isNoSecond_11 (by decide) ?_
    refine lv_goto (tgt := 16) hx hb dX5_isNoSecond_12 (by decide) ?_
    exact rtZ F hP hD hS dX5_isNoSecond_16 (rfl) (⟨by first | rw [if_pos (by omega)] | rw [if_neg (by omega)], rfl⟩)
  · skip
    refine lv_iload_n hx hb dX5_isNoSecond_5 rfl (lv_at hl 0 rfl) ?_
    refine lv_bipush (v := (nI 40)) hx hb dX5_isNoSecond_6 (by decide) ?_
    refine xle (tgt := 15) hx hb dX5_isNoSecond_8 (by decide) (by omega) (by omega) (fun c8 => ?_) (fun c8 => ?_)
    · skip
      refine lv_iconst (v := (nI 0)) hx hb dX5_isNoSecond_15 (by decide) ?_
      exact rtZ F hP hD hS dX5_isNoSecond_16 (rfl) (⟨by first | rw [if_pos (by omega)] | rw [if_neg (by omega)], rfl⟩)
    · skip
      refine lv_iconst (v := (nI 1)) hx hb dX5_isNoSecond_11 (by decide) ?_
      refine lv_goto (tgt := 16) hx hb dX5_isNoSecond_12 (by decide) ?_
      exact rtZ F hP hD hS dX5_isNoSecond_16 (rfl) (⟨by first | rw [if_pos (by omega)] | rw [if_neg (by omega)], rfl⟩)

set_option maxHeartbeats 4000000 in
set_option maxRecDepth 100000 in
theorem c_X5_isNoSecond (l : Launch) (g : EE) (x : Int32)  : CI l yX5_isNoSecond wsX5_isNoSecond ({ frames := 0, cells := 0, slots := 0, locals := 0 }) g [.int x] [] (fun (rz : Int32) (wz : va_W) => rz = (nI (if x.toInt < 1 ∨ 40 < x.toInt then 1 else 0)) ∧ wz = []) 0 0 := by
  refine ctI (cc := cX5_isNoSecond) (maxL := 1) (ret := (some .boolean)) (by decide) rfl (Nat.le_of_ble_eq_true rfl) ?_
  intro p_ e_ s_ m_ bl_ mt_ cd_ A ls F hnm hP hD hS hl
  obtain ⟨hx, hb, hml, hown, hts, hK, hX, hA, hrt_, hlocks⟩ := id F
  have hl : lv_has ls 1 [(0, .int x)] := hl
  refine lv_iload_n hx hb dX5_isNoSecond_0 rfl (lv_at hl 0 rfl) ?_
  refine lv_iconst (v := (nI 1)) hx hb dX5_isNoSecond_1 (by decide) ?_
  refine ylt (tgt := 11) hx hb dX5_isNoSecond_2 (by decide) (by omega) (fun c2 => ?_) (fun c2 => ?_)
  · skip
    refine lv_iconst (v := (nI 1)) hx hb dX5_isNoSecond_11 (by decide) ?_
    refine lv_goto (tgt := 16) hx hb dX5_isNoSecond_12 (by decide) ?_
    exact rtZ F hP hD hS dX5_isNoSecond_16 (rfl) (⟨by first | rw [if_pos (by omega)] | rw [if_neg (by omega)], rfl⟩)
  · skip
    refine lv_iload_n hx hb dX5_isNoSecond_5 rfl (lv_at hl 0 rfl) ?_
    refine lv_bipush (v := (nI 40)) hx hb dX5_isNoSecond_6 (by decide) ?_
    refine yle (tgt := 15) hx hb dX5_isNoSecond_8 (by decide) (by omega) (fun c8 => ?_) (fun c8 => ?_)
    · skip
      refine lv_iconst (v := (nI 0)) hx hb dX5_isNoSecond_15 (by decide) ?_
      exact rtZ F hP hD hS dX5_isNoSecond_16 (rfl) (⟨by first | rw [if_pos (by omega)] | rw [if_neg (by omega)], rfl⟩)
    · skip
      refine lv_iconst (v := (nI 1)) hx hb dX5_isNoSecond_11 (by decide) ?_
      refine lv_goto (tgt := 16) hx hb dX5_isNoSecond_12 (by decide) ?_
      exact rtZ F hP hD hS dX5_isNoSecond_16 (rfl) (⟨by first | rw [if_pos (by omega)] | rw [if_neg (by omega)], rfl⟩)

theorem kX5_isNoPart : Cal yX5_isNoPart wsX5_isNoPart cX5_isNoPart 1 (some .boolean) 1 := ⟨⟨_, rfl⟩, by decide +kernel⟩
set_option maxHeartbeats 4000000 in
set_option maxRecDepth 100000 in
theorem c_X5_isNoPart (l : Launch) (g : EE) (x : Int32)  : CI l yX5_isNoPart wsX5_isNoPart ({ frames := 0, cells := 0, slots := 0, locals := 0 }) g [.int x] [] (fun (rz : Int32) (wz : va_W) => rz = (nI (if x.toInt ≠ 0 ∧ x.toInt ≠ 1 then 1 else 0)) ∧ wz = []) 0 0 := by
  refine ctI (cc := cX5_isNoPart) (maxL := 1) (ret := (some .boolean)) (by decide) rfl (Nat.le_of_ble_eq_true rfl) ?_
  intro p_ e_ s_ m_ bl_ mt_ cd_ A ls F hnm hP hD hS hl
  obtain ⟨hx, hb, hml, hown, hts, hK, hX, hA, hrt_, hlocks⟩ := id F
  have hl : lv_has ls 1 [(0, .int x)] := hl
  refine lv_iload_n hx hb dX5_isNoPart_0 rfl (lv_at hl 0 rfl) ?_
  refine weq (tgt := 13) hx hb dX5_isNoPart_1 (by decide) (fun c1 => ?_) (fun c1 => ?_)
  · skip
    refine lv_iconst (v := (nI 0)) hx hb dX5_isNoPart_13 (by decide) ?_
    exact rtZ F hP hD hS dX5_isNoPart_14 (rfl) (⟨by first | rw [if_pos (by omega)] | rw [if_neg (by omega)], rfl⟩)
  · skip
    refine lv_iload_n hx hb dX5_isNoPart_4 rfl (lv_at hl 0 rfl) ?_
    refine lv_iconst (v := (nI 1)) hx hb dX5_isNoPart_5 (by decide) ?_
    refine yeq (tgt := 13) hx hb dX5_isNoPart_6 (by decide) (by omega) (fun c6 => ?_) (fun c6 => ?_)
    · skip
      refine lv_iconst (v := (nI 0)) hx hb dX5_isNoPart_13 (by decide) ?_
      exact rtZ F hP hD hS dX5_isNoPart_14 (rfl) (⟨by first | rw [if_pos (by omega)] | rw [if_neg (by omega)], rfl⟩)
    · skip
      refine lv_iconst (v := (nI 1)) hx hb dX5_isNoPart_9 (by decide) ?_
      refine lv_goto (tgt := 14) hx hb dX5_isNoPart_10 (by decide) ?_
      exact rtZ F hP hD hS dX5_isNoPart_14 (rfl) (⟨by first | rw [if_pos (by omega)] | rw [if_neg (by omega)], rfl⟩)

theorem inX5_isNoBand_X5 : ∀ w ∈ u_ws RX5 TX5 20, w ∈ wsX5_isNoBand := fun _ h => (List.mem_cons_of_mem _ (List.mem_append_right _ h))
theorem lkX5_isNoBand_1 : Cond.fieldLink RX5 19 "StripInFiveStepsModel" "now" "[I" ∈ wsX5_isNoBand := List.mem_of_getElem? (i := 1) rfl
theorem kX5_isNoBand : Cal yX5_isNoBand wsX5_isNoBand cX5_isNoBand 2 (some .boolean) 1 := ⟨⟨_, rfl⟩, by decide +kernel⟩
set_option maxHeartbeats 4000000 in
set_option maxRecDepth 100000 in
theorem n_X5_isNoBand (l : Launch) (g : EE) (m0 : Nat) (m1 : Nat) (m2 : Nat) (m3 : Nat) (m4 : Nat) (m5 : Nat) (m6 : Nat) (m7 : Nat) (m8 : Nat) (m9 : Nat) (m10 : Nat) (m11 : Nat) (m12 : Nat) (m13 : Nat) (m14 : Nat) (kp : Nat) (rn : Nat) (tn : Nat) (ia : Nat) (wl : Nat) (si : Nat) (S : Nat → Nat) (x : Nat) (hO : okS S) (hx0 : x < 2000000000) : CI l yX5_isNoBand wsX5_isNoBand ({ frames := 0, cells := 0, slots := 0, locals := 0 }) g [.ref m0, .int (nI x)] [(m0, .inr (5, [.ref m1, .ref m2, .ref m3, .int (nI kp), .ref m4, .ref m5, .ref m6, .ref m7, .ref m8, .int (nI rn), .ref m9, .int (nI tn), .int (nI ia), .int (nI wl), .ref m10, .ref m11, .ref m12, .int (nI si), .ref m13, .ref m14])), (m2, .inl (eI g, 49, .inl (fun j => nI (S j))))] (fun (rz : Int32) (wz : va_W) => rz = (nI (if x ≠ 8 ∧ S 41 ≤ x then 1 else 0)) ∧ wz = [(m0, .inr (5, [.ref m1, .ref m2, .ref m3, .int (nI kp), .ref m4, .ref m5, .ref m6, .ref m7, .ref m8, .int (nI rn), .ref m9, .int (nI tn), .int (nI ia), .int (nI wl), .ref m10, .ref m11, .ref m12, .int (nI si), .ref m13, .ref m14])), (m2, .inl (eI g, 49, .inl (fun j => nI (S j))))]) 0 0 := by
  refine ctI (cc := cX5_isNoBand) (maxL := 2) (ret := (some .boolean)) (by decide) rfl (Nat.le_of_ble_eq_true rfl) ?_
  intro p_ e_ s_ m_ bl_ mt_ cd_ A ls F hnm hP hD hS hl
  obtain ⟨hx, hb, hml, hown, hts, hK, hX, hA, hrt_, hlocks⟩ := id F
  have hl : lv_has ls 2 [(0, .ref m0), (1, .int (nI x))] := hl
  obtain ⟨hw40, ⟨h41a, h41b⟩, ⟨h42a, h42b⟩, h43, h44, h45, h46, h47, h48⟩ := id hO
  refine lv_iload_n hx hb dX5_isNoBand_0 rfl (lv_at hl 1 rfl) ?_
  refine lv_bipush (v := (nI 8)) hx hb dX5_isNoBand_1 (by decide) ?_
  refine xeq (tgt := 25) hx hb dX5_isNoBand_3 (by decide) (by omega) (by omega) (fun c3 => ?_) (fun c3 => ?_)
  · skip
    refine lv_iconst (v := (nI 0)) hx hb dX5_isNoBand_25 (by decide) ?_
    exact rtZ F hP hD hS dX5_isNoBand_26 (rfl) (⟨by first | rw [if_pos (by omega)] | rw [if_neg (by omega)], rfl⟩)
  · skip
    refine lv_iload_n hx hb dX5_isNoBand_6 rfl (lv_at hl 1 rfl) ?_
    refine zlt (tgt := 21) hx hb dX5_isNoBand_7 (by decide) (by omega) ?_
    refine lv_iload_n hx hb dX5_isNoBand_10 rfl (lv_at hl 1 rfl) ?_
    refine lv_aload_n hx hb dX5_isNoBand_11 rfl (lv_at hl 0 rfl) ?_
    refine xget F hP inX5_isNoBand_X5 0 rfl rfl 1 (by decide) lkX5_isNoBand_1 rfl dX5_isNoBand_12 ?_
    refine lv_bipush (v := (nI 41)) hx hb dX5_isNoBand_15 (by decide) ?_
    refine xald F hP 1 (v := (nI (S 41))) rfl (by omega) (by omega) rfl dX5_isNoBand_17 ?_
    refine xlt (tgt := 25) hx hb dX5_isNoBand_18 (by decide) (by omega) (by omega) (fun c18 => ?_) (fun c18 => ?_)
    · skip
      refine lv_iconst (v := (nI 0)) hx hb dX5_isNoBand_25 (by decide) ?_
      exact rtZ F hP hD hS dX5_isNoBand_26 (rfl) (⟨by first | rw [if_pos (by omega)] | rw [if_neg (by omega)], rfl⟩)
    · skip
      refine lv_iconst (v := (nI 1)) hx hb dX5_isNoBand_21 (by decide) ?_
      refine lv_goto (tgt := 26) hx hb dX5_isNoBand_22 (by decide) ?_
      exact rtZ F hP hD hS dX5_isNoBand_26 (rfl) (⟨by first | rw [if_pos (by omega)] | rw [if_neg (by omega)], rfl⟩)

set_option maxHeartbeats 4000000 in
set_option maxRecDepth 100000 in
theorem c_X5_isNoBand (l : Launch) (g : EE) (m0 : Nat) (m1 : Nat) (m2 : Nat) (m3 : Nat) (m4 : Nat) (m5 : Nat) (m6 : Nat) (m7 : Nat) (m8 : Nat) (m9 : Nat) (m10 : Nat) (m11 : Nat) (m12 : Nat) (m13 : Nat) (m14 : Nat) (kp : Nat) (rn : Nat) (tn : Nat) (ia : Nat) (wl : Nat) (si : Nat) (S : Nat → Nat) (x : Int32) (hO : okS S) : CI l yX5_isNoBand wsX5_isNoBand ({ frames := 0, cells := 0, slots := 0, locals := 0 }) g [.ref m0, .int x] [(m0, .inr (5, [.ref m1, .ref m2, .ref m3, .int (nI kp), .ref m4, .ref m5, .ref m6, .ref m7, .ref m8, .int (nI rn), .ref m9, .int (nI tn), .int (nI ia), .int (nI wl), .ref m10, .ref m11, .ref m12, .int (nI si), .ref m13, .ref m14])), (m2, .inl (eI g, 49, .inl (fun j => nI (S j))))] (fun (rz : Int32) (wz : va_W) => rz = (nI (if x.toInt ≠ 8 ∧ (x.toInt < 0 ∨ (S 41 : Int) ≤ x.toInt) then 1 else 0)) ∧ wz = [(m0, .inr (5, [.ref m1, .ref m2, .ref m3, .int (nI kp), .ref m4, .ref m5, .ref m6, .ref m7, .ref m8, .int (nI rn), .ref m9, .int (nI tn), .int (nI ia), .int (nI wl), .ref m10, .ref m11, .ref m12, .int (nI si), .ref m13, .ref m14])), (m2, .inl (eI g, 49, .inl (fun j => nI (S j))))]) 0 0 := by
  refine ctI (cc := cX5_isNoBand) (maxL := 2) (ret := (some .boolean)) (by decide) rfl (Nat.le_of_ble_eq_true rfl) ?_
  intro p_ e_ s_ m_ bl_ mt_ cd_ A ls F hnm hP hD hS hl
  obtain ⟨hx, hb, hml, hown, hts, hK, hX, hA, hrt_, hlocks⟩ := id F
  have hl : lv_has ls 2 [(0, .ref m0), (1, .int x)] := hl
  obtain ⟨hw40, ⟨h41a, h41b⟩, ⟨h42a, h42b⟩, h43, h44, h45, h46, h47, h48⟩ := id hO
  refine lv_iload_n hx hb dX5_isNoBand_0 rfl (lv_at hl 1 rfl) ?_
  refine lv_bipush (v := (nI 8)) hx hb dX5_isNoBand_1 (by decide) ?_
  refine yeq (tgt := 25) hx hb dX5_isNoBand_3 (by decide) (by omega) (fun c3 => ?_) (fun c3 => ?_)
  · skip
    refine lv_iconst (v := (nI 0)) hx hb dX5_isNoBand_25 (by decide) ?_
    exact rtZ F hP hD hS dX5_isNoBand_26 (rfl) (⟨by first | rw [if_pos (by omega)] | rw [if_neg (by omega)], rfl⟩)
  · skip
    refine lv_iload_n hx hb dX5_isNoBand_6 rfl (lv_at hl 1 rfl) ?_
    refine wlt (tgt := 21) hx hb dX5_isNoBand_7 (by decide) (fun c7 => ?_) (fun c7 => ?_)
    · skip
      refine lv_iconst (v := (nI 1)) hx hb dX5_isNoBand_21 (by decide) ?_
      refine lv_goto (tgt := 26) hx hb dX5_isNoBand_22 (by decide) ?_
      exact rtZ F hP hD hS dX5_isNoBand_26 (rfl) (⟨by first | rw [if_pos (by omega)] | rw [if_neg (by omega)], rfl⟩)
    · skip
      refine lv_iload_n hx hb dX5_isNoBand_10 rfl (lv_at hl 1 rfl) ?_
      refine lv_aload_n hx hb dX5_isNoBand_11 rfl (lv_at hl 0 rfl) ?_
      refine xget F hP inX5_isNoBand_X5 0 rfl rfl 1 (by decide) lkX5_isNoBand_1 rfl dX5_isNoBand_12 ?_
      refine lv_bipush (v := (nI 41)) hx hb dX5_isNoBand_15 (by decide) ?_
      refine xald F hP 1 (v := (nI (S 41))) rfl (by omega) (by omega) rfl dX5_isNoBand_17 ?_
      refine ylt (tgt := 25) hx hb dX5_isNoBand_18 (by decide) (by omega) (fun c18 => ?_) (fun c18 => ?_)
      · skip
        refine lv_iconst (v := (nI 0)) hx hb dX5_isNoBand_25 (by decide) ?_
        exact rtZ F hP hD hS dX5_isNoBand_26 (rfl) (⟨by first | rw [if_pos (by omega)] | rw [if_neg (by omega)], rfl⟩)
      · skip
        refine lv_iconst (v := (nI 1)) hx hb dX5_isNoBand_21 (by decide) ?_
        refine lv_goto (tgt := 26) hx hb dX5_isNoBand_22 (by decide) ?_
        exact rtZ F hP hD hS dX5_isNoBand_26 (rfl) (⟨by first | rw [if_pos (by omega)] | rw [if_neg (by omega)], rfl⟩)

theorem kX5_move : Cal yX5_move wsX5_move cX5_move 3 none 2 := ⟨⟨_, rfl⟩, by decide +kernel⟩
set_option maxHeartbeats 4000000 in
set_option maxRecDepth 100000 in
theorem c_X5_move (l : Launch) (g : EE) (f0 : Nat) (g0 : Nat) (P : Nat → Nat) (Q : Nat → Nat)  : CV l yX5_move wsX5_move ({ frames := 0, cells := 0, slots := 0, locals := 0 }) g [.ref f0, .ref g0] [(f0, .inl (eI g, 49, .inl (fun j => nI (P j)))), (g0, .inl (eI g, 49, .inl (fun j => nI (Q j))))] (fun (wz : va_W) => wz = [(f0, .inl (eI g, 49, .inl (fun j => nI (P j)))), (g0, .inl (eI g, 49, .inl (fun j => nI (P j))))]) 0 0 := by
  refine ctV (cc := cX5_move) (maxL := 3) (ret := none) (by decide) rfl (Nat.le_of_ble_eq_true rfl) ?_
  intro p_ e_ s_ m_ bl_ mt_ cd_ A ls F hnm hP hD hS hl
  obtain ⟨hx, hb, hml, hown, hts, hK, hX, hA, hrt_, hlocks⟩ := id F
  have hl : lv_has ls 3 [(0, .ref f0), (1, .ref g0)] := hl
  refine lv_iconst (v := (nI 0)) hx hb dX5_move_0 (by decide) ?_
  refine lv_istore_n (lv' := [(2, .int (nI 0)), (0, .ref f0), (1, .ref g0)]) hx hb dX5_move_1 rfl hl (by decide) rfl (fun ls hl => ?_)
  refine xlo (σ := Nat × (Nat → Nat)) 3 (fun xz_ => (fun (k : Nat) (V : Nat → Nat) => [(0, .ref f0), (1, .ref g0), (2, .int (nI k))]) xz_.1 xz_.2) (fun xz_ => (fun (k : Nat) (V : Nat → Nat) => [(f0, .inl (eI g, 49, .inl (fun j => nI (P j)))), (g0, .inl (eI g, 49, .inl (fun j => nI (V j))))]) xz_.1 xz_.2) (fun xz_ => (fun (k : Nat) (V : Nat → Nat) => (∀ j, j < k → V j = P j) ∧ k ≤ 49) xz_.1 xz_.2) (fun xz_ => (fun (k : Nat) (V : Nat → Nat) => 49 - k) xz_.1 xz_.2) (fun xz_ hI ih2 H locs ls hP hD hS hl => ?_) (0, Q) (show (∀ j, j < 0 → Q j = P j) ∧ 0 ≤ 49 from (⟨fun j hj => by omega, by omega⟩)) hP hD hS (lv_sub hl [1, 2, 0] rfl)
  obtain ⟨k, V⟩ := xz_
  have hP : va_P (eD g) vwCl [(f0, .inl (eI g, 49, .inl (fun j => nI (P j)))), (g0, .inl (eI g, 49, .inl (fun j => nI (V j))))] H := hP
  have hD : va_D A [(f0, .inl (eI g, 49, .inl (fun j => nI (P j)))), (g0, .inl (eI g, 49, .inl (fun j => nI (V j))))] := hD
  have hl : lv_has ls 3 [(0, .ref f0), (1, .ref g0), (2, .int (nI k))] := hl
  have hI2 : (∀ j, j < k → V j = P j) ∧ k ≤ 49 := hI
  clear hI
  obtain ⟨hV, hk⟩ := id hI2
  refine lv_iload_n hx hb dX5_move_2 rfl (lv_at hl 2 rfl) ?_
  refine lv_bipush (v := (nI 49)) hx hb dX5_move_3 (by decide) ?_
  refine xge (tgt := 20) hx hb dX5_move_5 (by decide) (by omega) (by omega) (fun c5 => ?_) (fun c5 => ?_)
  · skip
    obtain ⟨hP, hD⟩ := recN (f' := fun j => nI (P j)) hP hD 1 rfl (fun j hj => congrArg nI (hV j (by omega)))
    have hP : va_P (eD g) vwCl [(f0, .inl (eI g, 49, .inl (fun j => nI (P j)))), (g0, .inl (eI g, 49, .inl (fun j => nI (P j))))] H := hP
    have hD : va_D A [(f0, .inl (eI g, 49, .inl (fun j => nI (P j)))), (g0, .inl (eI g, 49, .inl (fun j => nI (P j))))] := hD
    exact rtV F hP hD hS dX5_move_20 (rfl)
  · skip
    refine lv_aload_n hx hb dX5_move_8 rfl (lv_at hl 1 rfl) ?_
    refine lv_iload_n hx hb dX5_move_9 rfl (lv_at hl 2 rfl) ?_
    refine lv_aload_n hx hb dX5_move_10 rfl (lv_at hl 0 rfl) ?_
    refine lv_iload_n hx hb dX5_move_11 rfl (lv_at hl 2 rfl) ?_
    refine xald F hP 0 (v := (nI (P k))) rfl (by omega) (by omega) rfl dX5_move_12 ?_
    refine xast F hP hD hS 1 (f' := fun j => nI ((updN V k (P k)) j)) rfl (by omega) (by omega) (upd_nI V k (P k)) dX5_move_13 (fun H locs hP hD hS => ?_)
    have hP : va_P (eD g) vwCl [(f0, .inl (eI g, 49, .inl (fun j => nI (P j)))), (g0, .inl (eI g, 49, .inl (fun j => nI ((updN V k (P k)) j))))] H := hP
    have hD : va_D A [(f0, .inl (eI g, 49, .inl (fun j => nI (P j)))), (g0, .inl (eI g, 49, .inl (fun j => nI ((updN V k (P k)) j))))] := hD
    refine lv_iinc (v := (nI (k + 1))) (lv' := [(2, .int (nI (k + 1))), (0, .ref f0), (1, .ref g0)]) hx hb dX5_move_14 hl (k := 2) rfl (iincP k 1) (by decide) rfl (fun ls hl => ?_)
    refine lv_goto (tgt := 2) hx hb dX5_move_17 (by decide) ?_
    exact ih2 (k + 1, (updN V k (P k))) (show (∀ j, j < (k + 1) → (updN V k (P k)) j = P j) ∧ (k + 1) ≤ 49 from (⟨cp_step hV, by omega⟩)) (show 49 - (k + 1) < 49 - k from (by omega)) _ _ _ hP hD hS (lv_sub hl [1, 2, 0] rfl)

theorem kX5_left : Cal yX5_left wsX5_left cX5_left 3 (some .int) 1 := ⟨⟨_, rfl⟩, by decide +kernel⟩
set_option maxHeartbeats 4000000 in
set_option maxRecDepth 100000 in
theorem c_X5_left (l : Launch) (g : EE) (f0 : Nat) (P : Nat → Nat) (hP9 : ∀ j, j ≤ 40 → P j ≤ 9) : CI l yX5_left wsX5_left ({ frames := 0, cells := 0, slots := 0, locals := 0 }) g [.ref f0] [(f0, .inl (eI g, 49, .inl (fun j => nI (P j))))] (fun (rz : Int32) (wz : va_W) => rz = (nI (cnS (lpB P))) ∧ wz = [(f0, .inl (eI g, 49, .inl (fun j => nI (P j))))]) 0 0 := by
  refine ctI (cc := cX5_left) (maxL := 3) (ret := (some .int)) (by decide) rfl (Nat.le_of_ble_eq_true rfl) ?_
  intro p_ e_ s_ m_ bl_ mt_ cd_ A ls F hnm hP hD hS hl
  obtain ⟨hx, hb, hml, hown, hts, hK, hX, hA, hrt_, hlocks⟩ := id F
  have hl : lv_has ls 3 [(0, .ref f0)] := hl
  refine lv_iconst (v := (nI 0)) hx hb dX5_left_0 (by decide) ?_
  refine lv_istore_n (lv' := [(1, .int (nI 0)), (0, .ref f0)]) hx hb dX5_left_1 rfl hl (by decide) rfl (fun ls hl => ?_)
  refine lv_iconst (v := (nI 1)) hx hb dX5_left_2 (by decide) ?_
  refine lv_istore_n (lv' := [(2, .int (nI 1)), (1, .int (nI 0)), (0, .ref f0)]) hx hb dX5_left_3 rfl hl (by decide) rfl (fun ls hl => ?_)
  refine xlo (σ := Nat × Nat) 3 (fun xz_ => (fun (i : Nat) (a : Nat) => [(0, .ref f0), (1, .int (nI a)), (2, .int (nI i))]) xz_.1 xz_.2) (fun xz_ => (fun (i : Nat) (a : Nat) => [(f0, .inl (eI g, 49, .inl (fun j => nI (P j))))]) xz_.1 xz_.2) (fun xz_ => (fun (i : Nat) (a : Nat) => a = sg (fun r => if P r = 0 then 0 else 1) (i - 1) ∧ 1 ≤ i ∧ i ≤ 41) xz_.1 xz_.2) (fun xz_ => (fun (i : Nat) (a : Nat) => 41 - i) xz_.1 xz_.2) (fun xz_ hI ih4 H locs ls hP hD hS hl => ?_) (1, 0) (show 0 = sg (fun r => if P r = 0 then 0 else 1) (1 - 1) ∧ 1 ≤ 1 ∧ 1 ≤ 41 from (⟨rfl, by omega, by omega⟩)) hP hD hS (lv_sub hl [2, 1, 0] rfl)
  obtain ⟨i, a⟩ := xz_
  have hP : va_P (eD g) vwCl [(f0, .inl (eI g, 49, .inl (fun j => nI (P j))))] H := hP
  have hD : va_D A [(f0, .inl (eI g, 49, .inl (fun j => nI (P j))))] := hD
  have hl : lv_has ls 3 [(0, .ref f0), (1, .int (nI a)), (2, .int (nI i))] := hl
  have hI4 : a = sg (fun r => if P r = 0 then 0 else 1) (i - 1) ∧ 1 ≤ i ∧ i ≤ 41 := hI
  clear hI
  obtain ⟨ha, hi1, hi2⟩ := id hI4
  refine lv_iload_n hx hb dX5_left_4 rfl (lv_at hl 2 rfl) ?_
  refine lv_bipush (v := (nI 40)) hx hb dX5_left_5 (by decide) ?_
  refine xgt (tgt := 30) hx hb dX5_left_7 (by decide) (by omega) (by omega) (fun c7 => ?_) (fun c7 => ?_)
  · skip
    refine lv_iload_n hx hb dX5_left_30 rfl (lv_at hl 1 rfl) ?_
    exact rtI F hP hD hS dX5_left_31 (⟨by rw [ha, show i - 1 = 40 by omega, cnS_lp], rfl⟩)
  · skip
    refine lv_iload_n hx hb dX5_left_10 rfl (lv_at hl 1 rfl) ?_
    refine lv_aload_n hx hb dX5_left_11 rfl (lv_at hl 0 rfl) ?_
    refine lv_iload_n hx hb dX5_left_12 rfl (lv_at hl 2 rfl) ?_
    refine xald F hP 0 (v := (nI (P i))) rfl (by omega) (by omega) rfl dX5_left_13 ?_
    have hbd1 := hP9 (i) (by omega)
    refine zle (tgt := 21) hx hb dX5_left_14 (by decide) (by omega) (fun c14 => ?_) (fun c14 => ?_)
    · skip
      refine lv_iconst (v := (nI 0)) hx hb dX5_left_21 (by decide) ?_
      refine xadd hx hb dX5_left_22 ?_
      refine lv_istore_n (lv' := [(1, .int (nI (a + 0))), (0, .ref f0), (2, .int (nI i))]) hx hb dX5_left_23 rfl hl (by decide) rfl (fun ls hl => ?_)
      refine lv_iinc (v := (nI (i + 1))) (lv' := [(2, .int (nI (i + 1))), (1, .int (nI (a + 0))), (0, .ref f0)]) hx hb dX5_left_24 hl (k := 2) rfl (iincP i 1) (by decide) rfl (fun ls hl => ?_)
      refine lv_goto (tgt := 4) hx hb dX5_left_27 (by decide) ?_
      exact ih4 (i + 1, a + 0) (show (a + 0) = sg (fun r => if P r = 0 then 0 else 1) ((i + 1) - 1) ∧ 1 ≤ (i + 1) ∧ (i + 1) ≤ 41 from (⟨by rw [ha]; exact (sg_step (f := fun r => if P r = 0 then 0 else 1) (by omega) (if_pos c14)).symm, by omega, by omega⟩)) (show 41 - (i + 1) < 41 - i from (by omega)) _ _ _ hP hD hS (lv_sub hl [2, 1, 0] rfl)
    · skip
      refine lv_iconst (v := (nI 1)) hx hb dX5_left_17 (by decide) ?_
      refine lv_goto (tgt := 22) hx hb dX5_left_18 (by decide) ?_
      refine xadd hx hb dX5_left_22 ?_
      refine lv_istore_n (lv' := [(1, .int (nI (a + 1))), (0, .ref f0), (2, .int (nI i))]) hx hb dX5_left_23 rfl hl (by decide) rfl (fun ls hl => ?_)
      refine lv_iinc (v := (nI (i + 1))) (lv' := [(2, .int (nI (i + 1))), (1, .int (nI (a + 1))), (0, .ref f0)]) hx hb dX5_left_24 hl (k := 2) rfl (iincP i 1) (by decide) rfl (fun ls hl => ?_)
      refine lv_goto (tgt := 4) hx hb dX5_left_27 (by decide) ?_
      exact ih4 (i + 1, a + 1) (show (a + 1) = sg (fun r => if P r = 0 then 0 else 1) ((i + 1) - 1) ∧ 1 ≤ (i + 1) ∧ (i + 1) ≤ 41 from (⟨by rw [ha]; exact (sg_step (f := fun r => if P r = 0 then 0 else 1) (by omega) (if_neg c14)).symm, by omega, by omega⟩)) (show 41 - (i + 1) < 41 - i from (by omega)) _ _ _ hP hD hS (lv_sub hl [2, 1, 0] rfl)

theorem kX5_weight : Cal yX5_weight wsX5_weight cX5_weight 3 (some .int) 1 := ⟨⟨_, rfl⟩, by decide +kernel⟩
set_option maxHeartbeats 4000000 in
set_option maxRecDepth 100000 in
theorem c_X5_weight (l : Launch) (g : EE) (f0 : Nat) (P : Nat → Nat)  : CI l yX5_weight wsX5_weight ({ frames := 0, cells := 0, slots := 0, locals := 0 }) g [.ref f0] [(f0, .inl (eI g, 49, .inl (fun j => nI (P j))))] (fun (rz : Int32) (wz : va_W) => rz = (nI (sg P 40)) ∧ wz = [(f0, .inl (eI g, 49, .inl (fun j => nI (P j))))]) 0 0 := by
  refine ctI (cc := cX5_weight) (maxL := 3) (ret := (some .int)) (by decide) rfl (Nat.le_of_ble_eq_true rfl) ?_
  intro p_ e_ s_ m_ bl_ mt_ cd_ A ls F hnm hP hD hS hl
  obtain ⟨hx, hb, hml, hown, hts, hK, hX, hA, hrt_, hlocks⟩ := id F
  have hl : lv_has ls 3 [(0, .ref f0)] := hl
  refine lv_iconst (v := (nI 0)) hx hb dX5_weight_0 (by decide) ?_
  refine lv_istore_n (lv' := [(1, .int (nI 0)), (0, .ref f0)]) hx hb dX5_weight_1 rfl hl (by decide) rfl (fun ls hl => ?_)
  refine lv_iconst (v := (nI 1)) hx hb dX5_weight_2 (by decide) ?_
  refine lv_istore_n (lv' := [(2, .int (nI 1)), (1, .int (nI 0)), (0, .ref f0)]) hx hb dX5_weight_3 rfl hl (by decide) rfl (fun ls hl => ?_)
  refine xlo (σ := Nat × Nat) 3 (fun xz_ => (fun (i : Nat) (a : Nat) => [(0, .ref f0), (1, .int (nI a)), (2, .int (nI i))]) xz_.1 xz_.2) (fun xz_ => (fun (i : Nat) (a : Nat) => [(f0, .inl (eI g, 49, .inl (fun j => nI (P j))))]) xz_.1 xz_.2) (fun xz_ => (fun (i : Nat) (a : Nat) => a = sg P (i - 1) ∧ 1 ≤ i ∧ i ≤ 41) xz_.1 xz_.2) (fun xz_ => (fun (i : Nat) (a : Nat) => 41 - i) xz_.1 xz_.2) (fun xz_ hI ih4 H locs ls hP hD hS hl => ?_) (1, 0) (show 0 = sg P (1 - 1) ∧ 1 ≤ 1 ∧ 1 ≤ 41 from (⟨rfl, by omega, by omega⟩)) hP hD hS (lv_sub hl [2, 1, 0] rfl)
  obtain ⟨i, a⟩ := xz_
  have hP : va_P (eD g) vwCl [(f0, .inl (eI g, 49, .inl (fun j => nI (P j))))] H := hP
  have hD : va_D A [(f0, .inl (eI g, 49, .inl (fun j => nI (P j))))] := hD
  have hl : lv_has ls 3 [(0, .ref f0), (1, .int (nI a)), (2, .int (nI i))] := hl
  have hI4 : a = sg P (i - 1) ∧ 1 ≤ i ∧ i ≤ 41 := hI
  clear hI
  obtain ⟨ha, hi1, hi2⟩ := id hI4
  refine lv_iload_n hx hb dX5_weight_4 rfl (lv_at hl 2 rfl) ?_
  refine lv_bipush (v := (nI 40)) hx hb dX5_weight_5 (by decide) ?_
  refine xgt (tgt := 22) hx hb dX5_weight_7 (by decide) (by omega) (by omega) (fun c7 => ?_) (fun c7 => ?_)
  · skip
    refine lv_iload_n hx hb dX5_weight_22 rfl (lv_at hl 1 rfl) ?_
    exact rtI F hP hD hS dX5_weight_23 (⟨by rw [ha, show i - 1 = 40 by omega], rfl⟩)
  · skip
    refine lv_iload_n hx hb dX5_weight_10 rfl (lv_at hl 1 rfl) ?_
    refine lv_aload_n hx hb dX5_weight_11 rfl (lv_at hl 0 rfl) ?_
    refine lv_iload_n hx hb dX5_weight_12 rfl (lv_at hl 2 rfl) ?_
    refine xald F hP 0 (v := (nI (P i))) rfl (by omega) (by omega) rfl dX5_weight_13 ?_
    refine xadd hx hb dX5_weight_14 ?_
    refine lv_istore_n (lv' := [(1, .int (nI (a + (P i)))), (0, .ref f0), (2, .int (nI i))]) hx hb dX5_weight_15 rfl hl (by decide) rfl (fun ls hl => ?_)
    refine lv_iinc (v := (nI (i + 1))) (lv' := [(2, .int (nI (i + 1))), (1, .int (nI (a + (P i)))), (0, .ref f0)]) hx hb dX5_weight_16 hl (k := 2) rfl (iincP i 1) (by decide) rfl (fun ls hl => ?_)
    refine lv_goto (tgt := 4) hx hb dX5_weight_19 (by decide) ?_
    exact ih4 (i + 1, a + (P i)) (show (a + (P i)) = sg P ((i + 1) - 1) ∧ 1 ≤ (i + 1) ∧ (i + 1) ≤ 41 from (⟨by rw [ha]; exact (sg_step (by omega) rfl).symm, by omega, by omega⟩)) (show 41 - (i + 1) < 41 - i from (by omega)) _ _ _ hP hD hS (lv_sub hl [2, 1, 0] rfl)

theorem inX5_isEmpty_X5 : ∀ w ∈ u_ws RX5 TX5 20, w ∈ wsX5_isEmpty := fun _ h => (List.mem_cons_of_mem _ (List.mem_append_right _ h))
theorem lkX5_isEmpty_1 : Cond.fieldLink RX5 19 "StripInFiveStepsModel" "now" "[I" ∈ wsX5_isEmpty := List.mem_of_getElem? (i := 1) rfl
theorem kX5_isEmpty : Cal yX5_isEmpty wsX5_isEmpty cX5_isEmpty 1 (some .boolean) 0 := ⟨⟨_, rfl⟩, by decide +kernel⟩
set_option maxHeartbeats 4000000 in
set_option maxRecDepth 100000 in
theorem c_X5_isEmpty (l : Launch) (g : EE) (m0 : Nat) (m1 : Nat) (m2 : Nat) (m3 : Nat) (m4 : Nat) (m5 : Nat) (m6 : Nat) (m7 : Nat) (m8 : Nat) (m9 : Nat) (m10 : Nat) (m11 : Nat) (m12 : Nat) (m13 : Nat) (m14 : Nat) (kp : Nat) (rn : Nat) (tn : Nat) (ia : Nat) (wl : Nat) (si : Nat) (S : Nat → Nat) (hO : okS S) : CI l yX5_isEmpty wsX5_isEmpty ({ frames := 1, cells := 0, slots := 0, locals := 22 }) g [.ref m0] [(m0, .inr (5, [.ref m1, .ref m2, .ref m3, .int (nI kp), .ref m4, .ref m5, .ref m6, .ref m7, .ref m8, .int (nI rn), .ref m9, .int (nI tn), .int (nI ia), .int (nI wl), .ref m10, .ref m11, .ref m12, .int (nI si), .ref m13, .ref m14])), (m2, .inl (eI g, 49, .inl (fun j => nI (S j))))] (fun (rz : Int32) (wz : va_W) => rz = (nI (if sg S 40 = 0 then 1 else 0)) ∧ wz = [(m0, .inr (5, [.ref m1, .ref m2, .ref m3, .int (nI kp), .ref m4, .ref m5, .ref m6, .ref m7, .ref m8, .int (nI rn), .ref m9, .int (nI tn), .int (nI ia), .int (nI wl), .ref m10, .ref m11, .ref m12, .int (nI si), .ref m13, .ref m14])), (m2, .inl (eI g, 49, .inl (fun j => nI (S j))))]) 0 0 := by
  refine ctI (cc := cX5_isEmpty) (maxL := 1) (ret := (some .boolean)) (by decide) rfl (Nat.le_of_ble_eq_true rfl) ?_
  intro p_ e_ s_ m_ bl_ mt_ cd_ A ls F hnm hP hD hS hl
  obtain ⟨hx, hb, hml, hown, hts, hK, hX, hA, hrt_, hlocks⟩ := id F
  have hl : lv_has ls 1 [(0, .ref m0)] := hl
  refine lv_aload_n hx hb dX5_isEmpty_0 rfl (lv_at hl 0 rfl) ?_
  refine xget F hP inX5_isEmpty_X5 0 rfl rfl 1 (by decide) lkX5_isEmpty_1 rfl dX5_isEmpty_1 ?_
  refine cSI (As := [.ref m2]) (rest := []) F (c_X5_weight l g m2 S ) kX5_weight gX5_isEmpty_X5_weight rfl rfl ⟨Nat.le_of_ble_eq_true rfl, Nat.le_of_ble_eq_true rfl⟩ hP hD hS [1] [0] rfl rfl hl.1 rfl rfl (Nat.le_of_ble_eq_true rfl) dX5_isEmpty_4 ⟨Nat.le_of_ble_eq_true rfl, Nat.le_of_ble_eq_true rfl⟩ (fun rz w1 H locs hpo hP hD hS => ?_)
  obtain ⟨rfl, rfl⟩ := hpo
  obtain ⟨hP, hD⟩ := nx (ws' := [(m0, .inr (5, [.ref m1, .ref m2, .ref m3, .int (nI kp), .ref m4, .ref m5, .ref m6, .ref m7, .ref m8, .int (nI rn), .ref m9, .int (nI tn), .int (nI ia), .int (nI wl), .ref m10, .ref m11, .ref m12, .int (nI si), .ref m13, .ref m14])), (m2, .inl (eI g, 49, .inl (fun j => nI (S j))))]) hP hD [0, 1] (ndB_ok _ rfl) rfl
  refine zne (tgt := 14) hx hb dX5_isEmpty_7 (by decide) (by have := sg_le (M := 9) 40 (fun r _ h => hO.1 r h); omega) (fun c7 => ?_) (fun c7 => ?_)
  · skip
    refine lv_iconst (v := (nI 0)) hx hb dX5_isEmpty_14 (by decide) ?_
    exact rtZ F hP hD hS dX5_isEmpty_15 (rfl) (⟨by first | rw [if_pos c7] | rw [if_neg c7], rfl⟩)
  · skip
    refine lv_iconst (v := (nI 1)) hx hb dX5_isEmpty_10 (by decide) ?_
    refine lv_goto (tgt := 15) hx hb dX5_isEmpty_11 (by decide) ?_
    exact rtZ F hP hD hS dX5_isEmpty_15 (rfl) (⟨by first | rw [if_pos c7] | rw [if_neg c7], rfl⟩)

theorem inX5_seconds_X5 : ∀ w ∈ u_ws RX5 TX5 20, w ∈ wsX5_seconds := fun _ h => (List.mem_cons_of_mem _ (List.mem_append_right _ h))
theorem lkX5_seconds_1 : Cond.fieldLink RX5 19 "StripInFiveStepsModel" "now" "[I" ∈ wsX5_seconds := List.mem_of_getElem? (i := 1) rfl
theorem lkX5_seconds_3 : Cond.static Lib.Math.min.name ∈ wsX5_seconds := List.mem_of_getElem? (i := 3) rfl
theorem lkX5_seconds_4 : Cond.initialized "java/lang/Math" ∈ wsX5_seconds := List.mem_of_getElem? (i := 4) rfl
theorem lkX5_seconds_5 : Cond.code Lib.Math.min.name Lib.Math.min.code 2 (some .int) ∈ wsX5_seconds := List.mem_of_getElem? (i := 5) rfl
theorem lkX5_seconds_2 : Cond.methodLink RX5 74 Lib.Math.min.name ∈ wsX5_seconds := List.mem_of_getElem? (i := 2) rfl
theorem kX5_seconds : Cal yX5_seconds wsX5_seconds cX5_seconds 6 (some .int) 2 := ⟨⟨_, rfl⟩, by decide +kernel⟩
set_option maxHeartbeats 4000000 in
set_option maxRecDepth 100000 in
theorem c_X5_seconds (l : Launch) (g : EE) (m0 : Nat) (m1 : Nat) (m2 : Nat) (m3 : Nat) (m4 : Nat) (m5 : Nat) (m6 : Nat) (m7 : Nat) (m8 : Nat) (m9 : Nat) (m10 : Nat) (m11 : Nat) (m12 : Nat) (m13 : Nat) (m14 : Nat) (kp : Nat) (rn : Nat) (tn : Nat) (ia : Nat) (wl : Nat) (si : Nat) (S : Nat → Nat) (v : Nat) (i : Nat) (hO : okS S) (hv : v ≤ 40) (hi : i < S 41) : CI l yX5_seconds wsX5_seconds ({ frames := 1, cells := 0, slots := 0, locals := 13 }) g [.ref m0, .int (nI v), .int (nI i)] [(m0, .inr (5, [.ref m1, .ref m2, .ref m3, .int (nI kp), .ref m4, .ref m5, .ref m6, .ref m7, .ref m8, .int (nI rn), .ref m9, .int (nI tn), .int (nI ia), .int (nI wl), .ref m10, .ref m11, .ref m12, .int (nI si), .ref m13, .ref m14])), (m2, .inl (eI g, 49, .inl (fun j => nI (S j))))] (fun (rz : Int32) (wz : va_W) => rz = (nI (secN (S 46) (S 41) (S 42) v i)) ∧ wz = [(m0, .inr (5, [.ref m1, .ref m2, .ref m3, .int (nI kp), .ref m4, .ref m5, .ref m6, .ref m7, .ref m8, .int (nI rn), .ref m9, .int (nI tn), .int (nI ia), .int (nI wl), .ref m10, .ref m11, .ref m12, .int (nI si), .ref m13, .ref m14])), (m2, .inl (eI g, 49, .inl (fun j => nI (S j))))]) 0 0 := by
  refine ctI (cc := cX5_seconds) (maxL := 6) (ret := (some .int)) (by decide) rfl (Nat.le_of_ble_eq_true rfl) ?_
  intro p_ e_ s_ m_ bl_ mt_ cd_ A ls F hnm hP hD hS hl
  obtain ⟨hx, hb, hml, hown, hts, hK, hX, hA, hrt_, hlocks⟩ := id F
  have hl : lv_has ls 6 [(0, .ref m0), (1, .int (nI v)), (2, .int (nI i))] := hl
  obtain ⟨hw40, ⟨h41a, h41b⟩, ⟨h42a, h42b⟩, h43, h44, h45, h46, h47, h48⟩ := id hO
  refine xjo (A := A) (g := g) (σ := Nat) 17 6 (fun (mo : Nat) => [(0, .ref m0), (1, .int (nI v)), (2, .int (nI i))]) (fun (mo : Nat) => [(m0, .inr (5, [.ref m1, .ref m2, .ref m3, .int (nI kp), .ref m4, .ref m5, .ref m6, .ref m7, .ref m8, .int (nI rn), .ref m9, .int (nI tn), .int (nI ia), .int (nI wl), .ref m10, .ref m11, .ref m12, .int (nI si), .ref m13, .ref m14])), (m2, .inl (eI g, 49, .inl (fun j => nI (S j))))]) (fun (mo : Nat) => [.int (nI mo)]) (fun (mo : Nat) => mo = (if i = 0 then 0 else S 42 - 1)) (fun jn17 => ?_) (fun xz_ hI H locs ls hP hD hS hl => ?_)
  · skip
    refine lv_iload_n hx hb dX5_seconds_0 rfl (lv_at hl 2 rfl) ?_
    refine zne (tgt := 8) hx hb dX5_seconds_1 (by decide) (by omega) (fun c1 => ?_) (fun c1 => ?_)
    · skip
      refine lv_aload_n hx hb dX5_seconds_8 rfl (lv_at hl 0 rfl) ?_
      refine xget F hP inX5_seconds_X5 0 rfl rfl 1 (by decide) lkX5_seconds_1 rfl dX5_seconds_9 ?_
      refine lv_bipush (v := (nI 42)) hx hb dX5_seconds_12 (by decide) ?_
      refine xald F hP 1 (v := (nI (S 42))) rfl (by omega) (by omega) rfl dX5_seconds_14 ?_
      refine lv_iconst (v := (nI 1)) hx hb dX5_seconds_15 (by decide) ?_
      refine xsub hx hb (by omega) dX5_seconds_16 ?_
      exact jn17 ((S 42) - 1) (show ((S 42) - 1) = (if i = 0 then 0 else S 42 - 1) from (by simp [c1])) _ _ _ hP hD hS (lv_sub hl [0, 1, 2] rfl)
    · skip
      refine lv_iconst (v := (nI 0)) hx hb dX5_seconds_4 (by decide) ?_
      refine lv_goto (tgt := 17) hx hb dX5_seconds_5 (by decide) ?_
      exact jn17 0 (show 0 = (if i = 0 then 0 else S 42 - 1) from (by simp [c1])) _ _ _ hP hD hS (lv_sub hl [0, 1, 2] rfl)
  · skip
    obtain ⟨mo, rfl⟩ : ∃ z, z = xz_ := ⟨_, rfl⟩
    have hP : va_P (eD g) vwCl [(m0, .inr (5, [.ref m1, .ref m2, .ref m3, .int (nI kp), .ref m4, .ref m5, .ref m6, .ref m7, .ref m8, .int (nI rn), .ref m9, .int (nI tn), .int (nI ia), .int (nI wl), .ref m10, .ref m11, .ref m12, .int (nI si), .ref m13, .ref m14])), (m2, .inl (eI g, 49, .inl (fun j => nI (S j))))] H := hP
    have hD : va_D A [(m0, .inr (5, [.ref m1, .ref m2, .ref m3, .int (nI kp), .ref m4, .ref m5, .ref m6, .ref m7, .ref m8, .int (nI rn), .ref m9, .int (nI tn), .int (nI ia), .int (nI wl), .ref m10, .ref m11, .ref m12, .int (nI si), .ref m13, .ref m14])), (m2, .inl (eI g, 49, .inl (fun j => nI (S j))))] := hD
    have hl : lv_has ls 6 [(0, .ref m0), (1, .int (nI v)), (2, .int (nI i))] := hl
    have hI17 : mo = (if i = 0 then 0 else S 42 - 1) := hI
    clear hI
    have hmb : mo ≤ 9 := by rw [hI17]; split <;> omega
    refine lv_istore_n (lv' := [(3, .int (nI mo)), (0, .ref m0), (1, .int (nI v)), (2, .int (nI i))]) hx hb dX5_seconds_17 rfl hl (by decide) rfl (fun ls hl => ?_)
    refine lv_iload_n hx hb dX5_seconds_18 rfl (lv_at hl 2 rfl) ?_
    refine lv_istore (lv' := [(4, .int (nI v)), (3, .int (nI mo)), (0, .ref m0), (1, .int (nI v)), (2, .int (nI i))]) hx hb dX5_seconds_19 hl (by decide) rfl (fun ls hl => ?_)
    refine lv_aload_n hx hb dX5_seconds_21 rfl (lv_at hl 2 rfl) ?_
    refine xget F hP inX5_seconds_X5 0 rfl rfl 1 (by decide) lkX5_seconds_1 rfl dX5_seconds_22 ?_
    refine lv_bipush (v := (nI 46)) hx hb dX5_seconds_25 (by decide) ?_
    refine xald F hP 1 (v := (nI (S 46))) rfl (by omega) (by omega) rfl dX5_seconds_27 ?_
    rcases (show S 46 = 0 ∨ S 46 = 3 ∨ (S 46 ≠ 0 ∧ S 46 ≠ 3) by omega) with c28 | c28 | c28
    · refine lv_lookup (tgt := 56) hx hb dX5_seconds_28 (by decide) (by rw [c28] <;> decide) (by decide) ?_
      refine lv_iload_n hx hb dX5_seconds_56 rfl (lv_at hl 3 rfl) ?_
      refine lv_iload_n hx hb dX5_seconds_57 rfl (lv_at hl 4 rfl) ?_
      refine lv_aload_n hx hb dX5_seconds_58 rfl (lv_at hl 2 rfl) ?_
      refine xget F hP inX5_seconds_X5 0 rfl rfl 1 (by decide) lkX5_seconds_1 rfl dX5_seconds_59 ?_
      refine lv_bipush (v := (nI 42)) hx hb dX5_seconds_62 (by decide) ?_
      refine xald F hP 1 (v := (nI (S 42))) rfl (by omega) (by omega) rfl dX5_seconds_64 ?_
      refine xmul hx hb dX5_seconds_65 ?_
      refine xadd hx hb dX5_seconds_66 ?_
      refine lv_istore (lv' := [(4, .int (nI (v + (i * (S 42))))), (3, .int (nI mo)), (0, .ref m0), (1, .int (nI v)), (2, .int (nI i))]) hx hb dX5_seconds_67 hl (by decide) rfl (fun ls hl => ?_)
      refine lv_goto (tgt := 146) hx hb dX5_seconds_69 (by decide) ?_
      refine lv_sipush (v := (nI 240)) hx hb dX5_seconds_146 (by decide) ?_
      refine lv_iload hx hb dX5_seconds_149 (lv_at hl 0 rfl) ?_
      refine xmin F hl.1 lkX5_seconds_2 lkX5_seconds_3 lkX5_seconds_4 lkX5_seconds_5 (Nat.le_of_ble_eq_true rfl) (Nat.le_of_ble_eq_true rfl) ⟨Nat.le_of_ble_eq_true rfl, Nat.le_of_ble_eq_true rfl⟩ (by omega) (by have := mul_le_c (show i ≤ 6 by omega) h42b; have := mul_le_c (show S 41 - 1 - i ≤ 6 by omega) h42b; omega) dX5_seconds_151 ?_
      exact rtI F hP hD hS dX5_seconds_154 (⟨by congr 1; show min 240 _ = min 240 (sec0 (S 46) (S 41) (S 42) v i); congr 1; unfold sec0; (repeat' split) <;> first | rfl | omega, rfl⟩)
    · refine lv_lookup (tgt := 72) hx hb dX5_seconds_28 (by decide) (by rw [c28] <;> decide) (by decide) ?_
      refine lv_iload_n hx hb dX5_seconds_72 rfl (lv_at hl 3 rfl) ?_
      refine lv_aload_n hx hb dX5_seconds_73 rfl (lv_at hl 2 rfl) ?_
      refine xget F hP inX5_seconds_X5 0 rfl rfl 1 (by decide) lkX5_seconds_1 rfl dX5_seconds_74 ?_
      refine lv_bipush (v := (nI 41)) hx hb dX5_seconds_77 (by decide) ?_
      refine xald F hP 1 (v := (nI (S 41))) rfl (by omega) (by omega) rfl dX5_seconds_79 ?_
      refine lv_iconst (v := (nI 1)) hx hb dX5_seconds_80 (by decide) ?_
      refine xsub hx hb (by omega) dX5_seconds_81 ?_
      refine lv_iload_n hx hb dX5_seconds_82 rfl (lv_at hl 4 rfl) ?_
      refine xsub hx hb (by omega) dX5_seconds_83 ?_
      refine lv_aload_n hx hb dX5_seconds_84 rfl (lv_at hl 2 rfl) ?_
      refine xget F hP inX5_seconds_X5 0 rfl rfl 1 (by decide) lkX5_seconds_1 rfl dX5_seconds_85 ?_
      refine lv_bipush (v := (nI 42)) hx hb dX5_seconds_88 (by decide) ?_
      refine xald F hP 1 (v := (nI (S 42))) rfl (by omega) (by omega) rfl dX5_seconds_90 ?_
      refine xmul hx hb dX5_seconds_91 ?_
      refine xadd hx hb dX5_seconds_92 ?_
      refine lv_istore (lv' := [(4, .int (nI (v + ((((S 41) - 1) - i) * (S 42))))), (3, .int (nI mo)), (0, .ref m0), (1, .int (nI v)), (2, .int (nI i))]) hx hb dX5_seconds_93 hl (by decide) rfl (fun ls hl => ?_)
      refine lv_goto (tgt := 146) hx hb dX5_seconds_95 (by decide) ?_
      refine lv_sipush (v := (nI 240)) hx hb dX5_seconds_146 (by decide) ?_
      refine lv_iload hx hb dX5_seconds_149 (lv_at hl 0 rfl) ?_
      refine xmin F hl.1 lkX5_seconds_2 lkX5_seconds_3 lkX5_seconds_4 lkX5_seconds_5 (Nat.le_of_ble_eq_true rfl) (Nat.le_of_ble_eq_true rfl) ⟨Nat.le_of_ble_eq_true rfl, Nat.le_of_ble_eq_true rfl⟩ (by omega) (by have := mul_le_c (show i ≤ 6 by omega) h42b; have := mul_le_c (show S 41 - 1 - i ≤ 6 by omega) h42b; omega) dX5_seconds_151 ?_
      exact rtI F hP hD hS dX5_seconds_154 (⟨by congr 1; show min 240 _ = min 240 (sec0 (S 46) (S 41) (S 42) v i); congr 1; unfold sec0; (repeat' split) <;> first | rfl | omega, rfl⟩)
    · refine lv_lookup (tgt := 98) hx hb dX5_seconds_28 (by decide) (off := 70) (show Op.lookupswitch.offset [(0, 28), (3, 44)] 70 (nI (S 46)).toInt = 70 by rw [lv_osw (k := nI 0) (nI_neq (by omega) (by omega) (by omega)) (by decide), lv_osw (k := nI 3) (nI_neq (by omega) (by omega) (by omega)) (by decide)]; rfl) (by decide) ?_
      refine lv_iconst (v := (nI 0)) hx hb dX5_seconds_98 (by decide) ?_
      refine lv_istore (lv' := [(5, .int (nI 0)), (4, .int (nI v)), (3, .int (nI mo)), (0, .ref m0), (1, .int (nI v)), (2, .int (nI i))]) hx hb dX5_seconds_99 hl (by decide) rfl (fun ls hl => ?_)
      refine xlo (σ := Nat × Nat) 6 (fun xz_ => (fun (k : Nat) (a : Nat) => [(0, .ref m0), (1, .int (nI v)), (2, .int (nI i)), (3, .int (nI mo)), (4, .int (nI a)), (5, .int (nI k))]) xz_.1 xz_.2) (fun xz_ => (fun (k : Nat) (a : Nat) => [(m0, .inr (5, [.ref m1, .ref m2, .ref m3, .int (nI kp), .ref m4, .ref m5, .ref m6, .ref m7, .ref m8, .int (nI rn), .ref m9, .int (nI tn), .int (nI ia), .int (nI wl), .ref m10, .ref m11, .ref m12, .int (nI si), .ref m13, .ref m14])), (m2, .inl (eI g, 49, .inl (fun j => nI (S j))))]) xz_.1 xz_.2) (fun xz_ => (fun (k : Nat) (a : Nat) => a = (if S 46 = 1 then v * 2 ^ k else hwN v k) ∧ k ≤ i) xz_.1 xz_.2) (fun xz_ => (fun (k : Nat) (a : Nat) => i - k) xz_.1 xz_.2) (fun xz_ hI ih101 H locs ls hP hD hS hl => ?_) (0, v) (show v = (if S 46 = 1 then v * 2 ^ 0 else hwN v 0) ∧ 0 ≤ i from (⟨by simp [hwN], by omega⟩)) hP hD hS (lv_sub hl [3, 4, 5, 2, 1, 0] rfl)
      obtain ⟨k, a⟩ := xz_
      have hP : va_P (eD g) vwCl [(m0, .inr (5, [.ref m1, .ref m2, .ref m3, .int (nI kp), .ref m4, .ref m5, .ref m6, .ref m7, .ref m8, .int (nI rn), .ref m9, .int (nI tn), .int (nI ia), .int (nI wl), .ref m10, .ref m11, .ref m12, .int (nI si), .ref m13, .ref m14])), (m2, .inl (eI g, 49, .inl (fun j => nI (S j))))] H := hP
      have hD : va_D A [(m0, .inr (5, [.ref m1, .ref m2, .ref m3, .int (nI kp), .ref m4, .ref m5, .ref m6, .ref m7, .ref m8, .int (nI rn), .ref m9, .int (nI tn), .int (nI ia), .int (nI wl), .ref m10, .ref m11, .ref m12, .int (nI si), .ref m13, .ref m14])), (m2, .inl (eI g, 49, .inl (fun j => nI (S j))))] := hD
      have hl : lv_has ls 6 [(0, .ref m0), (1, .int (nI v)), (2, .int (nI i)), (3, .int (nI mo)), (4, .int (nI a)), (5, .int (nI k))] := hl
      have hI101 : a = (if S 46 = 1 then v * 2 ^ k else hwN v k) ∧ k ≤ i := hI
      clear hI
      obtain ⟨ha, hk⟩ := id hI101
      have hab : a ≤ 2560 := by rw [ha]; split; exact mul_le_c hv (pow_le_6 (by omega)); exact hwN_b hv (by omega)
      refine lv_iload hx hb dX5_seconds_101 (lv_at hl 5 rfl) ?_
      refine lv_iload_n hx hb dX5_seconds_103 rfl (lv_at hl 2 rfl) ?_
      refine xge (tgt := 140) hx hb dX5_seconds_104 (by decide) (by omega) (by omega) (fun c104 => ?_) (fun c104 => ?_)
      · skip
        refine lv_iload hx hb dX5_seconds_140 (lv_at hl 4 rfl) ?_
        refine lv_iload_n hx hb dX5_seconds_142 rfl (lv_at hl 3 rfl) ?_
        refine xadd hx hb dX5_seconds_143 ?_
        refine lv_istore (lv' := [(4, .int (nI (a + mo))), (0, .ref m0), (1, .int (nI v)), (2, .int (nI i)), (3, .int (nI mo)), (5, .int (nI k))]) hx hb dX5_seconds_144 hl (by decide) rfl (fun ls hl => ?_)
        refine lv_sipush (v := (nI 240)) hx hb dX5_seconds_146 (by decide) ?_
        refine lv_iload hx hb dX5_seconds_149 (lv_at hl 0 rfl) ?_
        refine xmin F hl.1 lkX5_seconds_2 lkX5_seconds_3 lkX5_seconds_4 lkX5_seconds_5 (Nat.le_of_ble_eq_true rfl) (Nat.le_of_ble_eq_true rfl) ⟨Nat.le_of_ble_eq_true rfl, Nat.le_of_ble_eq_true rfl⟩ (by omega) (by have := mul_le_c (show i ≤ 6 by omega) h42b; have := mul_le_c (show S 41 - 1 - i ≤ 6 by omega) h42b; omega) dX5_seconds_151 ?_
        exact rtI F hP hD hS dX5_seconds_154 (⟨by congr 1; show min 240 _ = min 240 (sec0 (S 46) (S 41) (S 42) v i); congr 1; unfold sec0; rw [ha, hI17, show k = i by omega]; (repeat' split) <;> first | rfl | omega, rfl⟩)
      · skip
        refine lv_iload hx hb dX5_seconds_107 (lv_at hl 4 rfl) ?_
        refine lv_aload_n hx hb dX5_seconds_109 rfl (lv_at hl 0 rfl) ?_
        refine xget F hP inX5_seconds_X5 0 rfl rfl 1 (by decide) lkX5_seconds_1 rfl dX5_seconds_110 ?_
        refine lv_bipush (v := (nI 46)) hx hb dX5_seconds_113 (by decide) ?_
        refine xald F hP 1 (v := (nI (S 46))) rfl (by omega) (by omega) rfl dX5_seconds_115 ?_
        refine lv_iconst (v := (nI 1)) hx hb dX5_seconds_116 (by decide) ?_
        refine xne (tgt := 125) hx hb dX5_seconds_117 (by decide) (by omega) (by omega) (fun c117 => ?_) (fun c117 => ?_)
        · skip
          refine lv_iload hx hb dX5_seconds_125 (lv_at hl 4 rfl) ?_
          refine lv_iconst (v := (nI 1)) hx hb dX5_seconds_127 (by decide) ?_
          refine xadd hx hb dX5_seconds_128 ?_
          refine lv_iconst (v := (nI 2)) hx hb dX5_seconds_129 (by decide) ?_
          refine xdiv hx hb (by omega) (by omega) (by omega) dX5_seconds_130 ?_
          refine xadd hx hb dX5_seconds_131 ?_
          refine lv_istore (lv' := [(4, .int (nI (a + ((a + 1) / 2)))), (0, .ref m0), (1, .int (nI v)), (2, .int (nI i)), (3, .int (nI mo)), (5, .int (nI k))]) hx hb dX5_seconds_132 hl (by decide) rfl (fun ls hl => ?_)
          refine lv_iinc (v := (nI (k + 1))) (lv' := [(5, .int (nI (k + 1))), (4, .int (nI (a + ((a + 1) / 2)))), (0, .ref m0), (1, .int (nI v)), (2, .int (nI i)), (3, .int (nI mo))]) hx hb dX5_seconds_134 hl (k := 5) rfl (iincP k 1) (by decide) rfl (fun ls hl => ?_)
          refine lv_goto (tgt := 101) hx hb dX5_seconds_137 (by decide) ?_
          exact ih101 (k + 1, a + ((a + 1) / 2)) (show (a + ((a + 1) / 2)) = (if S 46 = 1 then v * 2 ^ (k + 1) else hwN v (k + 1)) ∧ (k + 1) ≤ i from (⟨by rw [ha, if_neg c117, if_neg c117]; rfl, by omega⟩)) (show i - (k + 1) < i - k from (by omega)) _ _ _ hP hD hS (lv_sub hl [2, 3, 4, 5, 1, 0] rfl)
        · skip
          refine lv_iload hx hb dX5_seconds_120 (lv_at hl 4 rfl) ?_
          refine lv_goto (tgt := 131) hx hb dX5_seconds_122 (by decide) ?_
          refine xadd hx hb dX5_seconds_131 ?_
          refine lv_istore (lv' := [(4, .int (nI (a + a))), (0, .ref m0), (1, .int (nI v)), (2, .int (nI i)), (3, .int (nI mo)), (5, .int (nI k))]) hx hb dX5_seconds_132 hl (by decide) rfl (fun ls hl => ?_)
          refine lv_iinc (v := (nI (k + 1))) (lv' := [(5, .int (nI (k + 1))), (4, .int (nI (a + a))), (0, .ref m0), (1, .int (nI v)), (2, .int (nI i)), (3, .int (nI mo))]) hx hb dX5_seconds_134 hl (k := 5) rfl (iincP k 1) (by decide) rfl (fun ls hl => ?_)
          refine lv_goto (tgt := 101) hx hb dX5_seconds_137 (by decide) ?_
          exact ih101 (k + 1, a + a) (show (a + a) = (if S 46 = 1 then v * 2 ^ (k + 1) else hwN v (k + 1)) ∧ (k + 1) ≤ i from (⟨by rw [ha, if_pos c117, if_pos c117, Nat.pow_succ, ← Nat.mul_assoc]; omega, by omega⟩)) (show i - (k + 1) < i - k from (by omega)) _ _ _ hP hD hS (lv_sub hl [2, 3, 4, 5, 1, 0] rfl)

theorem inX5_nearest_X5 : ∀ w ∈ u_ws RX5 TX5 20, w ∈ wsX5_nearest := fun _ h => (List.mem_cons_of_mem _ (List.mem_append_right _ h))
theorem lkX5_nearest_1 : Cond.fieldLink RX5 19 "StripInFiveStepsModel" "now" "[I" ∈ wsX5_nearest := List.mem_of_getElem? (i := 1) rfl
theorem lkX5_nearest_3 : Cond.static Lib.Math.abs.name ∈ wsX5_nearest := List.mem_of_getElem? (i := 3) rfl
theorem lkX5_nearest_4 : Cond.initialized "java/lang/Math" ∈ wsX5_nearest := List.mem_of_getElem? (i := 4) rfl
theorem lkX5_nearest_5 : Cond.code Lib.Math.abs.name Lib.Math.abs.code 1 (some .int) ∈ wsX5_nearest := List.mem_of_getElem? (i := 5) rfl
theorem lkX5_nearest_2 : Cond.methodLink RX5 83 Lib.Math.abs.name ∈ wsX5_nearest := List.mem_of_getElem? (i := 2) rfl
theorem kX5_nearest : Cal yX5_nearest wsX5_nearest cX5_nearest 9 (some .int) 3 := ⟨⟨_, rfl⟩, by decide +kernel⟩
set_option maxHeartbeats 4000000 in
set_option maxRecDepth 100000 in
theorem c_X5_nearest (l : Launch) (g : EE) (m0 : Nat) (m1 : Nat) (m2 : Nat) (m3 : Nat) (m4 : Nat) (m5 : Nat) (m6 : Nat) (m7 : Nat) (m8 : Nat) (m9 : Nat) (m10 : Nat) (m11 : Nat) (m12 : Nat) (m13 : Nat) (m14 : Nat) (kp : Nat) (rn : Nat) (tn : Nat) (ia : Nat) (wl : Nat) (si : Nat) (S : Nat → Nat) (v : Nat) (r : Nat) (sl : Nat) (hO : okS S) (hv : v ≤ 40) (hr : r ≤ 60) (hsl : sl ≤ 1) : CI l yX5_nearest wsX5_nearest ({ frames := 2, cells := 0, slots := 0, locals := 38 }) g [.ref m0, .int (nI v), .int (nI r), .int (nI sl)] [(m0, .inr (5, [.ref m1, .ref m2, .ref m3, .int (nI kp), .ref m4, .ref m5, .ref m6, .ref m7, .ref m8, .int (nI rn), .ref m9, .int (nI tn), .int (nI ia), .int (nI wl), .ref m10, .ref m11, .ref m12, .int (nI si), .ref m13, .ref m14])), (m2, .inl (eI g, 49, .inl (fun j => nI (S j))))] (fun (rz : Int32) (wz : va_W) => rz = (nI (nearQ (secN (S 46) (S 41) (S 42) v) r (decide (sl = 1)) (S 41 - 1))) ∧ wz = [(m0, .inr (5, [.ref m1, .ref m2, .ref m3, .int (nI kp), .ref m4, .ref m5, .ref m6, .ref m7, .ref m8, .int (nI rn), .ref m9, .int (nI tn), .int (nI ia), .int (nI wl), .ref m10, .ref m11, .ref m12, .int (nI si), .ref m13, .ref m14])), (m2, .inl (eI g, 49, .inl (fun j => nI (S j))))]) 0 0 := by
  refine ctI (cc := cX5_nearest) (maxL := 9) (ret := (some .int)) (by decide) rfl (Nat.le_of_ble_eq_true rfl) ?_
  intro p_ e_ s_ m_ bl_ mt_ cd_ A ls F hnm hP hD hS hl
  obtain ⟨hx, hb, hml, hown, hts, hK, hX, hA, hrt_, hlocks⟩ := id F
  have hl : lv_has ls 9 [(0, .ref m0), (1, .int (nI v)), (2, .int (nI r)), (3, .int (nI sl))] := hl
  obtain ⟨hw40, ⟨h41a, h41b⟩, ⟨h42a, h42b⟩, h43, h44, h45, h46, h47, h48⟩ := id hO
  refine lv_bipush (v := (-9)) hx hb dX5_nearest_0 (by decide) ?_
  refine lv_istore (lv' := [(4, .int (-9)), (0, .ref m0), (1, .int (nI v)), (2, .int (nI r)), (3, .int (nI sl))]) hx hb dX5_nearest_2 hl (by decide) rfl (fun ls hl => ?_)
  refine lv_iconst (v := (nI 0)) hx hb dX5_nearest_4 (by decide) ?_
  refine lv_istore (lv' := [(5, .int (nI 0)), (4, .int (-9)), (0, .ref m0), (1, .int (nI v)), (2, .int (nI r)), (3, .int (nI sl))]) hx hb dX5_nearest_5 hl (by decide) rfl (fun ls hl => ?_)
  refine lv_iload hx hb dX5_nearest_7 (lv_at hl 0 rfl) ?_
  refine lv_aload_n hx hb dX5_nearest_9 rfl (lv_at hl 2 rfl) ?_
  refine xget F hP inX5_nearest_X5 0 rfl rfl 1 (by decide) lkX5_nearest_1 rfl dX5_nearest_10 ?_
  refine lv_bipush (v := (nI 41)) hx hb dX5_nearest_13 (by decide) ?_
  refine xald F hP 1 (v := (nI (S 41))) rfl (by omega) (by omega) rfl dX5_nearest_15 ?_
  refine xge (tgt := 148) hx hb dX5_nearest_16 (by decide) (by omega) (by omega) (fun c16 => ?_) (fun c16 => ?_)
  · skip
    exfalso; omega
  · skip
    refine lv_iload hx hb dX5_nearest_19 (lv_at hl 1 rfl) ?_
    refine lv_bipush (v := (-9)) hx hb dX5_nearest_21 (by decide) ?_
    refine lv_icmp_ne (tgt := 33) hx hb dX5_nearest_23 (by decide) (fun c => absurd rfl c) (fun c => ?_)
    refine lv_iload hx hb dX5_nearest_26 (lv_at hl 0 rfl) ?_
    refine lv_istore (lv' := [(4, .int (nI 0)), (5, .int (nI 0)), (0, .ref m0), (1, .int (nI v)), (2, .int (nI r)), (3, .int (nI sl))]) hx hb dX5_nearest_28 hl (by decide) rfl (fun ls hl => ?_)
    refine lv_goto (tgt := 142) hx hb dX5_nearest_30 (by decide) ?_
    refine lv_iinc (v := (nI (0 + 1))) (lv' := [(5, .int (nI (0 + 1))), (4, .int (nI 0)), (0, .ref m0), (1, .int (nI v)), (2, .int (nI r)), (3, .int (nI sl))]) hx hb dX5_nearest_142 hl (k := 1) rfl (iincP 0 1) (by decide) rfl (fun ls hl => ?_)
    refine lv_goto (tgt := 7) hx hb dX5_nearest_145 (by decide) ?_
    refine xlo (σ := Nat × Nat) 9 (fun xz_ => (fun (i : Nat) (b : Nat) => [(0, .ref m0), (1, .int (nI v)), (2, .int (nI r)), (3, .int (nI sl)), (4, .int (nI b)), (5, .int (nI i))]) xz_.1 xz_.2) (fun xz_ => (fun (i : Nat) (b : Nat) => [(m0, .inr (5, [.ref m1, .ref m2, .ref m3, .int (nI kp), .ref m4, .ref m5, .ref m6, .ref m7, .ref m8, .int (nI rn), .ref m9, .int (nI tn), .int (nI ia), .int (nI wl), .ref m10, .ref m11, .ref m12, .int (nI si), .ref m13, .ref m14])), (m2, .inl (eI g, 49, .inl (fun j => nI (S j))))]) xz_.1 xz_.2) (fun xz_ => (fun (i : Nat) (b : Nat) => b = nearQ (secN (S 46) (S 41) (S 42) v) r (decide (sl = 1)) (i - 1) ∧ 1 ≤ i ∧ i ≤ S 41) xz_.1 xz_.2) (fun xz_ => (fun (i : Nat) (b : Nat) => S 41 - i) xz_.1 xz_.2) (fun xz_ hI ih7 H locs ls hP hD hS hl => ?_) (0 + 1, 0) (show 0 = nearQ (secN (S 46) (S 41) (S 42) v) r (decide (sl = 1)) ((0 + 1) - 1) ∧ 1 ≤ (0 + 1) ∧ (0 + 1) ≤ S 41 from (⟨rfl, by omega, by omega⟩)) hP hD hS (lv_sub hl [2, 3, 4, 5, 1, 0] rfl)
    obtain ⟨i, b⟩ := xz_
    have hP : va_P (eD g) vwCl [(m0, .inr (5, [.ref m1, .ref m2, .ref m3, .int (nI kp), .ref m4, .ref m5, .ref m6, .ref m7, .ref m8, .int (nI rn), .ref m9, .int (nI tn), .int (nI ia), .int (nI wl), .ref m10, .ref m11, .ref m12, .int (nI si), .ref m13, .ref m14])), (m2, .inl (eI g, 49, .inl (fun j => nI (S j))))] H := hP
    have hD : va_D A [(m0, .inr (5, [.ref m1, .ref m2, .ref m3, .int (nI kp), .ref m4, .ref m5, .ref m6, .ref m7, .ref m8, .int (nI rn), .ref m9, .int (nI tn), .int (nI ia), .int (nI wl), .ref m10, .ref m11, .ref m12, .int (nI si), .ref m13, .ref m14])), (m2, .inl (eI g, 49, .inl (fun j => nI (S j))))] := hD
    have hl : lv_has ls 9 [(0, .ref m0), (1, .int (nI v)), (2, .int (nI r)), (3, .int (nI sl)), (4, .int (nI b)), (5, .int (nI i))] := hl
    have hI7 : b = nearQ (secN (S 46) (S 41) (S 42) v) r (decide (sl = 1)) (i - 1) ∧ 1 ≤ i ∧ i ≤ S 41 := hI
    clear hI
    obtain ⟨hb0, hi1, hi2⟩ := id hI7
    have hbl : b ≤ i - 1 := by rw [hb0]; exact nearQ_le _ _ _ _
    refine lv_iload hx hb dX5_nearest_7 (lv_at hl 5 rfl) ?_
    refine lv_aload_n hx hb dX5_nearest_9 rfl (lv_at hl 0 rfl) ?_
    refine xget F hP inX5_nearest_X5 0 rfl rfl 1 (by decide) lkX5_nearest_1 rfl dX5_nearest_10 ?_
    refine lv_bipush (v := (nI 41)) hx hb dX5_nearest_13 (by decide) ?_
    refine xald F hP 1 (v := (nI (S 41))) rfl (by omega) (by omega) rfl dX5_nearest_15 ?_
    refine xge (tgt := 148) hx hb dX5_nearest_16 (by decide) (by omega) (by omega) (fun c16 => ?_) (fun c16 => ?_)
    · skip
      refine lv_iload hx hb dX5_nearest_148 (lv_at hl 4 rfl) ?_
      exact rtI F hP hD hS dX5_nearest_150 (⟨by rw [hb0, show i = S 41 by omega], rfl⟩)
    · skip
      refine lv_iload hx hb dX5_nearest_19 (lv_at hl 4 rfl) ?_
      refine lv_bipush (v := (-9)) hx hb dX5_nearest_21 (by decide) ?_
      refine lv_icmp_ne (tgt := 33) hx hb dX5_nearest_23 (by decide) (fun c => ?_) (fun c => absurd c (nI_neg9 (by omega)))
      refine lv_aload_n hx hb dX5_nearest_33 rfl (lv_at hl 0 rfl) ?_
      refine lv_iload_n hx hb dX5_nearest_34 rfl (lv_at hl 1 rfl) ?_
      refine lv_iload hx hb dX5_nearest_35 (lv_at hl 5 rfl) ?_
      refine cVI (As := [.int (nI v), .int (nI i)]) (rest := []) F (c_X5_seconds l g m0 m1 m2 m3 m4 m5 m6 m7 m8 m9 m10 m11 m12 m13 m14 kp rn tn ia wl si S v i (hO) (hv) (by omega)) kX5_seconds rfl gX5_nearest_X5_seconds rfl rfl ⟨Nat.le_of_ble_eq_true rfl, Nat.le_of_ble_eq_true rfl⟩ hP hD hS [0, 1] [] rfl rfl 0 rfl rfl hl.1 rfl rfl (Nat.le_of_ble_eq_true rfl) dX5_nearest_37 ⟨Nat.le_of_ble_eq_true rfl, Nat.le_of_ble_eq_true rfl⟩ (fun rz w1 H locs hpo hP hD hS => ?_)
      obtain ⟨rfl, rfl⟩ := hpo
      obtain ⟨hP, hD⟩ := nx (ws' := [(m0, .inr (5, [.ref m1, .ref m2, .ref m3, .int (nI kp), .ref m4, .ref m5, .ref m6, .ref m7, .ref m8, .int (nI rn), .ref m9, .int (nI tn), .int (nI ia), .int (nI wl), .ref m10, .ref m11, .ref m12, .int (nI si), .ref m13, .ref m14])), (m2, .inl (eI g, 49, .inl (fun j => nI (S j))))]) hP hD [0, 1] (ndB_ok _ rfl) rfl
      have hsb1 := secN_le (S 46) (S 41) (S 42) v i
      refine lv_iload_n hx hb dX5_nearest_40 rfl (lv_at hl 2 rfl) ?_
      refine lv_isub hx hb dX5_nearest_41 ?_
      refine xabs F hl.1 lkX5_nearest_2 lkX5_nearest_3 lkX5_nearest_4 lkX5_nearest_5 (Nat.le_of_ble_eq_true rfl) (Nat.le_of_ble_eq_true rfl) ⟨Nat.le_of_ble_eq_true rfl, Nat.le_of_ble_eq_true rfl⟩ (by omega) (by omega) dX5_nearest_42 ?_
      refine lv_istore (lv' := [(6, .int (nI (dst (secN (S 46) (S 41) (S 42) v i) r))), (0, .ref m0), (1, .int (nI v)), (2, .int (nI r)), (3, .int (nI sl)), (4, .int (nI b)), (5, .int (nI i))]) hx hb dX5_nearest_45 hl (by decide) rfl (fun ls hl => ?_)
      refine lv_aload_n hx hb dX5_nearest_47 rfl (lv_at hl 1 rfl) ?_
      refine lv_iload_n hx hb dX5_nearest_48 rfl (lv_at hl 2 rfl) ?_
      refine lv_iload hx hb dX5_nearest_49 (lv_at hl 5 rfl) ?_
      refine cVI (As := [.int (nI v), .int (nI b)]) (rest := []) F (c_X5_seconds l g m0 m1 m2 m3 m4 m5 m6 m7 m8 m9 m10 m11 m12 m13 m14 kp rn tn ia wl si S v b (hO) (hv) (by omega)) kX5_seconds rfl gX5_nearest_X5_seconds rfl rfl ⟨Nat.le_of_ble_eq_true rfl, Nat.le_of_ble_eq_true rfl⟩ hP hD hS [0, 1] [] rfl rfl 0 rfl rfl hl.1 rfl rfl (Nat.le_of_ble_eq_true rfl) dX5_nearest_51 ⟨Nat.le_of_ble_eq_true rfl, Nat.le_of_ble_eq_true rfl⟩ (fun rz w1 H locs hpo hP hD hS => ?_)
      obtain ⟨rfl, rfl⟩ := hpo
      obtain ⟨hP, hD⟩ := nx (ws' := [(m0, .inr (5, [.ref m1, .ref m2, .ref m3, .int (nI kp), .ref m4, .ref m5, .ref m6, .ref m7, .ref m8, .int (nI rn), .ref m9, .int (nI tn), .int (nI ia), .int (nI wl), .ref m10, .ref m11, .ref m12, .int (nI si), .ref m13, .ref m14])), (m2, .inl (eI g, 49, .inl (fun j => nI (S j))))]) hP hD [0, 1] (ndB_ok _ rfl) rfl
      have hsb2 := secN_le (S 46) (S 41) (S 42) v b
      refine lv_iload_n hx hb dX5_nearest_54 rfl (lv_at hl 3 rfl) ?_
      refine lv_isub hx hb dX5_nearest_55 ?_
      refine xabs F hl.1 lkX5_nearest_2 lkX5_nearest_3 lkX5_nearest_4 lkX5_nearest_5 (Nat.le_of_ble_eq_true rfl) (Nat.le_of_ble_eq_true rfl) ⟨Nat.le_of_ble_eq_true rfl, Nat.le_of_ble_eq_true rfl⟩ (by omega) (by omega) dX5_nearest_56 ?_
      refine lv_istore (lv' := [(7, .int (nI (dst (secN (S 46) (S 41) (S 42) v b) r))), (6, .int (nI (dst (secN (S 46) (S 41) (S 42) v i) r))), (0, .ref m0), (1, .int (nI v)), (2, .int (nI r)), (3, .int (nI sl)), (4, .int (nI b)), (5, .int (nI i))]) hx hb dX5_nearest_59 hl (by decide) rfl (fun ls hl => ?_)
      refine xjo (A := A) (g := g) (σ := Nat) 112 9 (fun (ra : Nat) => [(0, .ref m0), (1, .int (nI v)), (2, .int (nI r)), (3, .int (nI sl)), (4, .int (nI b)), (5, .int (nI i)), (6, .int (nI (dst (secN (S 46) (S 41) (S 42) v i) r))), (7, .int (nI (dst (secN (S 46) (S 41) (S 42) v b) r)))]) (fun (ra : Nat) => [(m0, .inr (5, [.ref m1, .ref m2, .ref m3, .int (nI kp), .ref m4, .ref m5, .ref m6, .ref m7, .ref m8, .int (nI rn), .ref m9, .int (nI tn), .int (nI ia), .int (nI wl), .ref m10, .ref m11, .ref m12, .int (nI si), .ref m13, .ref m14])), (m2, .inl (eI g, 49, .inl (fun j => nI (S j))))]) (fun (ra : Nat) => [.int (nI ra)]) (fun (ra : Nat) => ra = (if (if decide (sl = 1) = true then decide (secN (S 46) (S 41) (S 42) v b ≤ secN (S 46) (S 41) (S 42) v i) else decide (secN (S 46) (S 41) (S 42) v i < secN (S 46) (S 41) (S 42) v b)) = true then 1 else 0) ∧ i < S 41) (fun jn112 => ?_) (fun xz_ hI H locs ls hP hD hS hl => ?_)
      · skip
        refine lv_iload_n hx hb dX5_nearest_61 rfl (lv_at hl 5 rfl) ?_
        refine zeq (tgt := 90) hx hb dX5_nearest_62 (by decide) (by omega) (fun c62 => ?_) (fun c62 => ?_)
        · skip
          refine lv_aload_n hx hb dX5_nearest_90 rfl (lv_at hl 2 rfl) ?_
          refine lv_iload_n hx hb dX5_nearest_91 rfl (lv_at hl 3 rfl) ?_
          refine lv_iload hx hb dX5_nearest_92 (lv_at hl 7 rfl) ?_
          refine cVI (As := [.int (nI v), .int (nI i)]) (rest := []) F (c_X5_seconds l g m0 m1 m2 m3 m4 m5 m6 m7 m8 m9 m10 m11 m12 m13 m14 kp rn tn ia wl si S v i (hO) (hv) (by omega)) kX5_seconds rfl gX5_nearest_X5_seconds rfl rfl ⟨Nat.le_of_ble_eq_true rfl, Nat.le_of_ble_eq_true rfl⟩ hP hD hS [0, 1] [] rfl rfl 0 rfl rfl hl.1 rfl rfl (Nat.le_of_ble_eq_true rfl) dX5_nearest_94 ⟨Nat.le_of_ble_eq_true rfl, Nat.le_of_ble_eq_true rfl⟩ (fun rz w1 H locs hpo hP hD hS => ?_)
          obtain ⟨rfl, rfl⟩ := hpo
          obtain ⟨hP, hD⟩ := nx (ws' := [(m0, .inr (5, [.ref m1, .ref m2, .ref m3, .int (nI kp), .ref m4, .ref m5, .ref m6, .ref m7, .ref m8, .int (nI rn), .ref m9, .int (nI tn), .int (nI ia), .int (nI wl), .ref m10, .ref m11, .ref m12, .int (nI si), .ref m13, .ref m14])), (m2, .inl (eI g, 49, .inl (fun j => nI (S j))))]) hP hD [0, 1] (ndB_ok _ rfl) rfl
          have hsb3 := secN_le (S 46) (S 41) (S 42) v i
          refine lv_aload_n hx hb dX5_nearest_97 rfl (lv_at hl 2 rfl) ?_
          refine lv_iload_n hx hb dX5_nearest_98 rfl (lv_at hl 3 rfl) ?_
          refine lv_iload hx hb dX5_nearest_99 (lv_at hl 6 rfl) ?_
          refine cVI (As := [.int (nI v), .int (nI b)]) (rest := [.int (nI (secN (S 46) (S 41) (S 42) v i))]) F (c_X5_seconds l g m0 m1 m2 m3 m4 m5 m6 m7 m8 m9 m10 m11 m12 m13 m14 kp rn tn ia wl si S v b (hO) (hv) (by omega)) kX5_seconds rfl gX5_nearest_X5_seconds rfl rfl ⟨Nat.le_of_ble_eq_true rfl, Nat.le_of_ble_eq_true rfl⟩ hP hD hS [0, 1] [] rfl rfl 0 rfl rfl hl.1 rfl rfl (Nat.le_of_ble_eq_true rfl) dX5_nearest_101 ⟨Nat.le_of_ble_eq_true rfl, Nat.le_of_ble_eq_true rfl⟩ (fun rz w1 H locs hpo hP hD hS => ?_)
          obtain ⟨rfl, rfl⟩ := hpo
          obtain ⟨hP, hD⟩ := nx (ws' := [(m0, .inr (5, [.ref m1, .ref m2, .ref m3, .int (nI kp), .ref m4, .ref m5, .ref m6, .ref m7, .ref m8, .int (nI rn), .ref m9, .int (nI tn), .int (nI ia), .int (nI wl), .ref m10, .ref m11, .ref m12, .int (nI si), .ref m13, .ref m14])), (m2, .inl (eI g, 49, .inl (fun j => nI (S j))))]) hP hD [0, 1] (ndB_ok _ rfl) rfl
          have hsb4 := secN_le (S 46) (S 41) (S 42) v b
          refine xge (tgt := 111) hx hb dX5_nearest_104 (by decide) (by omega) (by omega) (fun c104 => ?_) (fun c104 => ?_)
          · skip
            refine lv_iconst (v := (nI 0)) hx hb dX5_nearest_111 (by decide) ?_
            exact jn112 0 (show 0 = (if (if decide (sl = 1) = true then decide (secN (S 46) (S 41) (S 42) v b ≤ secN (S 46) (S 41) (S 42) v i) else decide (secN (S 46) (S 41) (S 42) v i < secN (S 46) (S 41) (S 42) v b)) = true then 1 else 0) ∧ i < S 41 from (⟨by rcases (show sl = 0 ∨ sl = 1 by omega) with h | h <;> simp [h] <;> omega, by omega⟩)) _ _ _ hP hD hS (lv_sub hl [2, 3, 4, 5, 6, 7, 1, 0] rfl)
          · skip
            refine lv_iconst (v := (nI 1)) hx hb dX5_nearest_107 (by decide) ?_
            refine lv_goto (tgt := 112) hx hb dX5_nearest_108 (by decide) ?_
            exact jn112 1 (show 1 = (if (if decide (sl = 1) = true then decide (secN (S 46) (S 41) (S 42) v b ≤ secN (S 46) (S 41) (S 42) v i) else decide (secN (S 46) (S 41) (S 42) v i < secN (S 46) (S 41) (S 42) v b)) = true then 1 else 0) ∧ i < S 41 from (⟨by rcases (show sl = 0 ∨ sl = 1 by omega) with h | h <;> simp [h] <;> omega, by omega⟩)) _ _ _ hP hD hS (lv_sub hl [2, 3, 4, 5, 6, 7, 1, 0] rfl)
        · skip
          refine lv_aload_n hx hb dX5_nearest_65 rfl (lv_at hl 2 rfl) ?_
          refine lv_iload_n hx hb dX5_nearest_66 rfl (lv_at hl 3 rfl) ?_
          refine lv_iload hx hb dX5_nearest_67 (lv_at hl 7 rfl) ?_
          refine cVI (As := [.int (nI v), .int (nI i)]) (rest := []) F (c_X5_seconds l g m0 m1 m2 m3 m4 m5 m6 m7 m8 m9 m10 m11 m12 m13 m14 kp rn tn ia wl si S v i (hO) (hv) (by omega)) kX5_seconds rfl gX5_nearest_X5_seconds rfl rfl ⟨Nat.le_of_ble_eq_true rfl, Nat.le_of_ble_eq_true rfl⟩ hP hD hS [0, 1] [] rfl rfl 0 rfl rfl hl.1 rfl rfl (Nat.le_of_ble_eq_true rfl) dX5_nearest_69 ⟨Nat.le_of_ble_eq_true rfl, Nat.le_of_ble_eq_true rfl⟩ (fun rz w1 H locs hpo hP hD hS => ?_)
          obtain ⟨rfl, rfl⟩ := hpo
          obtain ⟨hP, hD⟩ := nx (ws' := [(m0, .inr (5, [.ref m1, .ref m2, .ref m3, .int (nI kp), .ref m4, .ref m5, .ref m6, .ref m7, .ref m8, .int (nI rn), .ref m9, .int (nI tn), .int (nI ia), .int (nI wl), .ref m10, .ref m11, .ref m12, .int (nI si), .ref m13, .ref m14])), (m2, .inl (eI g, 49, .inl (fun j => nI (S j))))]) hP hD [0, 1] (ndB_ok _ rfl) rfl
          have hsb5 := secN_le (S 46) (S 41) (S 42) v i
          refine lv_aload_n hx hb dX5_nearest_72 rfl (lv_at hl 2 rfl) ?_
          refine lv_iload_n hx hb dX5_nearest_73 rfl (lv_at hl 3 rfl) ?_
          refine lv_iload hx hb dX5_nearest_74 (lv_at hl 6 rfl) ?_
          refine cVI (As := [.int (nI v), .int (nI b)]) (rest := [.int (nI (secN (S 46) (S 41) (S 42) v i))]) F (c_X5_seconds l g m0 m1 m2 m3 m4 m5 m6 m7 m8 m9 m10 m11 m12 m13 m14 kp rn tn ia wl si S v b (hO) (hv) (by omega)) kX5_seconds rfl gX5_nearest_X5_seconds rfl rfl ⟨Nat.le_of_ble_eq_true rfl, Nat.le_of_ble_eq_true rfl⟩ hP hD hS [0, 1] [] rfl rfl 0 rfl rfl hl.1 rfl rfl (Nat.le_of_ble_eq_true rfl) dX5_nearest_76 ⟨Nat.le_of_ble_eq_true rfl, Nat.le_of_ble_eq_true rfl⟩ (fun rz w1 H locs hpo hP hD hS => ?_)
          obtain ⟨rfl, rfl⟩ := hpo
          obtain ⟨hP, hD⟩ := nx (ws' := [(m0, .inr (5, [.ref m1, .ref m2, .ref m3, .int (nI kp), .ref m4, .ref m5, .ref m6, .ref m7, .ref m8, .int (nI rn), .ref m9, .int (nI tn), .int (nI ia), .int (nI wl), .ref m10, .ref m11, .ref m12, .int (nI si), .ref m13, .ref m14])), (m2, .inl (eI g, 49, .inl (fun j => nI (S j))))]) hP hD [0, 1] (ndB_ok _ rfl) rfl
          have hsb6 := secN_le (S 46) (S 41) (S 42) v b
          refine xlt (tgt := 86) hx hb dX5_nearest_79 (by decide) (by omega) (by omega) (fun c79 => ?_) (fun c79 => ?_)
          · skip
            refine lv_iconst (v := (nI 0)) hx hb dX5_nearest_86 (by decide) ?_
            refine lv_goto (tgt := 112) hx hb dX5_nearest_87 (by decide) ?_
            exact jn112 0 (show 0 = (if (if decide (sl = 1) = true then decide (secN (S 46) (S 41) (S 42) v b ≤ secN (S 46) (S 41) (S 42) v i) else decide (secN (S 46) (S 41) (S 42) v i < secN (S 46) (S 41) (S 42) v b)) = true then 1 else 0) ∧ i < S 41 from (⟨by rcases (show sl = 0 ∨ sl = 1 by omega) with h | h <;> simp [h] <;> omega, by omega⟩)) _ _ _ hP hD hS (lv_sub hl [2, 3, 4, 5, 6, 7, 1, 0] rfl)
          · skip
            refine lv_iconst (v := (nI 1)) hx hb dX5_nearest_82 (by decide) ?_
            refine lv_goto (tgt := 112) hx hb dX5_nearest_83 (by decide) ?_
            exact jn112 1 (show 1 = (if (if decide (sl = 1) = true then decide (secN (S 46) (S 41) (S 42) v b ≤ secN (S 46) (S 41) (S 42) v i) else decide (secN (S 46) (S 41) (S 42) v i < secN (S 46) (S 41) (S 42) v b)) = true then 1 else 0) ∧ i < S 41 from (⟨by rcases (show sl = 0 ∨ sl = 1 by omega) with h | h <;> simp [h] <;> omega, by omega⟩)) _ _ _ hP hD hS (lv_sub hl [2, 3, 4, 5, 6, 7, 1, 0] rfl)
      · skip
        obtain ⟨ra, rfl⟩ : ∃ z, z = xz_ := ⟨_, rfl⟩
        have hP : va_P (eD g) vwCl [(m0, .inr (5, [.ref m1, .ref m2, .ref m3, .int (nI kp), .ref m4, .ref m5, .ref m6, .ref m7, .ref m8, .int (nI rn), .ref m9, .int (nI tn), .int (nI ia), .int (nI wl), .ref m10, .ref m11, .ref m12, .int (nI si), .ref m13, .ref m14])), (m2, .inl (eI g, 49, .inl (fun j => nI (S j))))] H := hP
        have hD : va_D A [(m0, .inr (5, [.ref m1, .ref m2, .ref m3, .int (nI kp), .ref m4, .ref m5, .ref m6, .ref m7, .ref m8, .int (nI rn), .ref m9, .int (nI tn), .int (nI ia), .int (nI wl), .ref m10, .ref m11, .ref m12, .int (nI si), .ref m13, .ref m14])), (m2, .inl (eI g, 49, .inl (fun j => nI (S j))))] := hD
        have hl : lv_has ls 9 [(0, .ref m0), (1, .int (nI v)), (2, .int (nI r)), (3, .int (nI sl)), (4, .int (nI b)), (5, .int (nI i)), (6, .int (nI (dst (secN (S 46) (S 41) (S 42) v i) r))), (7, .int (nI (dst (secN (S 46) (S 41) (S 42) v b) r)))] := hl
        have hI112 : ra = (if (if decide (sl = 1) = true then decide (secN (S 46) (S 41) (S 42) v b ≤ secN (S 46) (S 41) (S 42) v i) else decide (secN (S 46) (S 41) (S 42) v i < secN (S 46) (S 41) (S 42) v b)) = true then 1 else 0) ∧ i < S 41 := hI
        clear hI
        obtain ⟨hra, hin⟩ := id hI112
        have hrb : ra ≤ 1 := by rw [hra]; exact ite_le1 _
        have hsb1 := secN_le (S 46) (S 41) (S 42) v i
        have hsb2 := secN_le (S 46) (S 41) (S 42) v b
        refine lv_istore (lv' := [(8, .int (nI ra)), (0, .ref m0), (1, .int (nI v)), (2, .int (nI r)), (3, .int (nI sl)), (4, .int (nI b)), (5, .int (nI i)), (6, .int (nI (dst (secN (S 46) (S 41) (S 42) v i) r))), (7, .int (nI (dst (secN (S 46) (S 41) (S 42) v b) r)))]) hx hb dX5_nearest_112 hl (by decide) rfl (fun ls hl => ?_)
        refine lv_iload hx hb dX5_nearest_114 (lv_at hl 7 rfl) ?_
        refine lv_iload hx hb dX5_nearest_116 (lv_at hl 8 rfl) ?_
        refine xlt (tgt := 133) hx hb dX5_nearest_118 (by decide) (by have := dst_le (show secN (S 46) (S 41) (S 42) v i ≤ 240 by omega) (show r ≤ 240 by omega); omega) (by have := dst_le (show secN (S 46) (S 41) (S 42) v b ≤ 240 by omega) (show r ≤ 240 by omega); omega) (fun c118 => ?_) (fun c118 => ?_)
        · skip
          refine lv_iload hx hb dX5_nearest_133 (lv_at hl 6 rfl) ?_
          refine lv_goto (tgt := 140) hx hb dX5_nearest_135 (by decide) ?_
          refine lv_istore (lv' := [(4, .int (nI i)), (8, .int (nI ra)), (0, .ref m0), (1, .int (nI v)), (2, .int (nI r)), (3, .int (nI sl)), (5, .int (nI i)), (6, .int (nI (dst (secN (S 46) (S 41) (S 42) v i) r))), (7, .int (nI (dst (secN (S 46) (S 41) (S 42) v b) r)))]) hx hb dX5_nearest_140 hl (by decide) rfl (fun ls hl => ?_)
          refine lv_iinc (v := (nI (i + 1))) (lv' := [(5, .int (nI (i + 1))), (4, .int (nI i)), (8, .int (nI ra)), (0, .ref m0), (1, .int (nI v)), (2, .int (nI r)), (3, .int (nI sl)), (6, .int (nI (dst (secN (S 46) (S 41) (S 42) v i) r))), (7, .int (nI (dst (secN (S 46) (S 41) (S 42) v b) r)))]) hx hb dX5_nearest_142 hl (k := 6) rfl (iincP i 1) (by decide) rfl (fun ls hl => ?_)
          refine lv_goto (tgt := 7) hx hb dX5_nearest_145 (by decide) ?_
          exact ih7 (i + 1, i) (show i = nearQ (secN (S 46) (S 41) (S 42) v) r (decide (sl = 1)) ((i + 1) - 1) ∧ 1 ≤ (i + 1) ∧ (i + 1) ≤ S 41 from (⟨(near_back (nb := S 41) hb0 rfl hra (by omega) (by omega) (by omega)).1, by omega, by omega⟩)) (show S 41 - (i + 1) < S 41 - i from (by omega)) _ _ _ hP hD hS (lv_sub hl [3, 4, 5, 6, 1, 0] rfl)
        · skip
          refine lv_iload hx hb dX5_nearest_121 (lv_at hl 7 rfl) ?_
          refine lv_iload hx hb dX5_nearest_123 (lv_at hl 8 rfl) ?_
          refine xne (tgt := 138) hx hb dX5_nearest_125 (by decide) (by have := dst_le (show secN (S 46) (S 41) (S 42) v i ≤ 240 by omega) (show r ≤ 240 by omega); omega) (by have := dst_le (show secN (S 46) (S 41) (S 42) v b ≤ 240 by omega) (show r ≤ 240 by omega); omega) (fun c125 => ?_) (fun c125 => ?_)
          · skip
            refine lv_iload hx hb dX5_nearest_138 (lv_at hl 5 rfl) ?_
            refine lv_istore (lv' := [(4, .int (nI b)), (8, .int (nI ra)), (0, .ref m0), (1, .int (nI v)), (2, .int (nI r)), (3, .int (nI sl)), (5, .int (nI i)), (6, .int (nI (dst (secN (S 46) (S 41) (S 42) v i) r))), (7, .int (nI (dst (secN (S 46) (S 41) (S 42) v b) r)))]) hx hb dX5_nearest_140 hl (by decide) rfl (fun ls hl => ?_)
            refine lv_iinc (v := (nI (i + 1))) (lv' := [(5, .int (nI (i + 1))), (4, .int (nI b)), (8, .int (nI ra)), (0, .ref m0), (1, .int (nI v)), (2, .int (nI r)), (3, .int (nI sl)), (6, .int (nI (dst (secN (S 46) (S 41) (S 42) v i) r))), (7, .int (nI (dst (secN (S 46) (S 41) (S 42) v b) r)))]) hx hb dX5_nearest_142 hl (k := 6) rfl (iincP i 1) (by decide) rfl (fun ls hl => ?_)
            refine lv_goto (tgt := 7) hx hb dX5_nearest_145 (by decide) ?_
            exact ih7 (i + 1, b) (show b = nearQ (secN (S 46) (S 41) (S 42) v) r (decide (sl = 1)) ((i + 1) - 1) ∧ 1 ≤ (i + 1) ∧ (i + 1) ≤ S 41 from (⟨(near_stay (nb := S 41) hb0 rfl hra (by omega) (by omega) (by omega)).1, by omega, by omega⟩)) (show S 41 - (i + 1) < S 41 - i from (by omega)) _ _ _ hP hD hS (lv_sub hl [3, 4, 5, 6, 1, 0] rfl)
          · skip
            refine lv_iload hx hb dX5_nearest_128 (lv_at hl 0 rfl) ?_
            refine zeq (tgt := 138) hx hb dX5_nearest_130 (by decide) (by omega) (fun c130 => ?_) (fun c130 => ?_)
            · skip
              refine lv_iload hx hb dX5_nearest_138 (lv_at hl 5 rfl) ?_
              refine lv_istore (lv' := [(4, .int (nI b)), (8, .int (nI ra)), (0, .ref m0), (1, .int (nI v)), (2, .int (nI r)), (3, .int (nI sl)), (5, .int (nI i)), (6, .int (nI (dst (secN (S 46) (S 41) (S 42) v i) r))), (7, .int (nI (dst (secN (S 46) (S 41) (S 42) v b) r)))]) hx hb dX5_nearest_140 hl (by decide) rfl (fun ls hl => ?_)
              refine lv_iinc (v := (nI (i + 1))) (lv' := [(5, .int (nI (i + 1))), (4, .int (nI b)), (8, .int (nI ra)), (0, .ref m0), (1, .int (nI v)), (2, .int (nI r)), (3, .int (nI sl)), (6, .int (nI (dst (secN (S 46) (S 41) (S 42) v i) r))), (7, .int (nI (dst (secN (S 46) (S 41) (S 42) v b) r)))]) hx hb dX5_nearest_142 hl (k := 6) rfl (iincP i 1) (by decide) rfl (fun ls hl => ?_)
              refine lv_goto (tgt := 7) hx hb dX5_nearest_145 (by decide) ?_
              exact ih7 (i + 1, b) (show b = nearQ (secN (S 46) (S 41) (S 42) v) r (decide (sl = 1)) ((i + 1) - 1) ∧ 1 ≤ (i + 1) ∧ (i + 1) ≤ S 41 from (⟨(near_stay (nb := S 41) hb0 rfl hra (by omega) (by omega) (by omega)).1, by omega, by omega⟩)) (show S 41 - (i + 1) < S 41 - i from (by omega)) _ _ _ hP hD hS (lv_sub hl [3, 4, 5, 6, 1, 0] rfl)
            · skip
              refine lv_iload hx hb dX5_nearest_133 (lv_at hl 6 rfl) ?_
              refine lv_goto (tgt := 140) hx hb dX5_nearest_135 (by decide) ?_
              refine lv_istore (lv' := [(4, .int (nI i)), (8, .int (nI ra)), (0, .ref m0), (1, .int (nI v)), (2, .int (nI r)), (3, .int (nI sl)), (5, .int (nI i)), (6, .int (nI (dst (secN (S 46) (S 41) (S 42) v i) r))), (7, .int (nI (dst (secN (S 46) (S 41) (S 42) v b) r)))]) hx hb dX5_nearest_140 hl (by decide) rfl (fun ls hl => ?_)
              refine lv_iinc (v := (nI (i + 1))) (lv' := [(5, .int (nI (i + 1))), (4, .int (nI i)), (8, .int (nI ra)), (0, .ref m0), (1, .int (nI v)), (2, .int (nI r)), (3, .int (nI sl)), (6, .int (nI (dst (secN (S 46) (S 41) (S 42) v i) r))), (7, .int (nI (dst (secN (S 46) (S 41) (S 42) v b) r)))]) hx hb dX5_nearest_142 hl (k := 6) rfl (iincP i 1) (by decide) rfl (fun ls hl => ?_)
              refine lv_goto (tgt := 7) hx hb dX5_nearest_145 (by decide) ?_
              exact ih7 (i + 1, i) (show i = nearQ (secN (S 46) (S 41) (S 42) v) r (decide (sl = 1)) ((i + 1) - 1) ∧ 1 ≤ (i + 1) ∧ (i + 1) ≤ S 41 from (⟨(near_back (nb := S 41) hb0 rfl hra (by omega) (by omega) (by omega)).1, by omega, by omega⟩)) (show S 41 - (i + 1) < S 41 - i from (by omega)) _ _ _ hP hD hS (lv_sub hl [3, 4, 5, 6, 1, 0] rfl)

theorem inX5_tells_X5 : ∀ w ∈ u_ws RX5 TX5 20, w ∈ wsX5_tells := fun _ h => (List.mem_cons_of_mem _ (List.mem_append_right _ h))
theorem lkX5_tells_1 : Cond.fieldLink RX5 19 "StripInFiveStepsModel" "now" "[I" ∈ wsX5_tells := List.mem_of_getElem? (i := 1) rfl
theorem lkX5_tells_3 : Cond.static Lib.Math.max.name ∈ wsX5_tells := List.mem_of_getElem? (i := 3) rfl
theorem lkX5_tells_4 : Cond.initialized "java/lang/Math" ∈ wsX5_tells := List.mem_of_getElem? (i := 4) rfl
theorem lkX5_tells_5 : Cond.code Lib.Math.max.name Lib.Math.max.code 2 (some .int) ∈ wsX5_tells := List.mem_of_getElem? (i := 5) rfl
theorem lkX5_tells_2 : Cond.methodLink RX5 90 Lib.Math.max.name ∈ wsX5_tells := List.mem_of_getElem? (i := 2) rfl
theorem lkX5_tells_7 : Cond.static Lib.Math.abs.name ∈ wsX5_tells := List.mem_of_getElem? (i := 7) rfl
theorem lkX5_tells_8 : Cond.code Lib.Math.abs.name Lib.Math.abs.code 1 (some .int) ∈ wsX5_tells := List.mem_of_getElem? (i := 8) rfl
theorem lkX5_tells_6 : Cond.methodLink RX5 83 Lib.Math.abs.name ∈ wsX5_tells := List.mem_of_getElem? (i := 6) rfl
theorem kX5_tells : Cal yX5_tells wsX5_tells cX5_tells 5 (some .int) 2 := ⟨⟨_, rfl⟩, by decide +kernel⟩
set_option maxHeartbeats 4000000 in
set_option maxRecDepth 100000 in
theorem c_X5_tells (l : Launch) (g : EE) (m0 : Nat) (m1 : Nat) (m2 : Nat) (m3 : Nat) (m4 : Nat) (m5 : Nat) (m6 : Nat) (m7 : Nat) (m8 : Nat) (m9 : Nat) (m10 : Nat) (m11 : Nat) (m12 : Nat) (m13 : Nat) (m14 : Nat) (kp : Nat) (rn : Nat) (tn : Nat) (ia : Nat) (wl : Nat) (si : Nat) (S : Nat → Nat) (v : Nat) (r : Nat) (hO : okS S) (hv : v ≤ 40) (hr : r ≤ 40) : CI l yX5_tells wsX5_tells ({ frames := 3, cells := 0, slots := 0, locals := 66 }) g [.ref m0, .int (nI v), .int (nI r)] [(m0, .inr (5, [.ref m1, .ref m2, .ref m3, .int (nI kp), .ref m4, .ref m5, .ref m6, .ref m7, .ref m8, .int (nI rn), .ref m9, .int (nI tn), .int (nI ia), .int (nI wl), .ref m10, .ref m11, .ref m12, .int (nI si), .ref m13, .ref m14])), (m2, .inl (eI g, 49, .inl (fun j => nI (S j))))] (fun (rz : Int32) (wz : va_W) => rz = (nI (tlS S v r)) ∧ wz = [(m0, .inr (5, [.ref m1, .ref m2, .ref m3, .int (nI kp), .ref m4, .ref m5, .ref m6, .ref m7, .ref m8, .int (nI rn), .ref m9, .int (nI tn), .int (nI ia), .int (nI wl), .ref m10, .ref m11, .ref m12, .int (nI si), .ref m13, .ref m14])), (m2, .inl (eI g, 49, .inl (fun j => nI (S j))))]) 0 0 := by
  refine ctI (cc := cX5_tells) (maxL := 5) (ret := (some .int)) (by decide) rfl (Nat.le_of_ble_eq_true rfl) ?_
  intro p_ e_ s_ m_ bl_ mt_ cd_ A ls F hnm hP hD hS hl
  obtain ⟨hx, hb, hml, hown, hts, hK, hX, hA, hrt_, hlocks⟩ := id F
  have hl : lv_has ls 5 [(0, .ref m0), (1, .int (nI v)), (2, .int (nI r))] := hl
  obtain ⟨hw40, ⟨h41a, h41b⟩, ⟨h42a, h42b⟩, h43, h44, h45, h46, h47, h48⟩ := id hO
  refine lv_aload_n hx hb dX5_tells_0 rfl (lv_at hl 0 rfl) ?_
  refine xget F hP inX5_tells_X5 0 rfl rfl 1 (by decide) lkX5_tells_1 rfl dX5_tells_1 ?_
  refine lv_bipush (v := (nI 43)) hx hb dX5_tells_4 (by decide) ?_
  refine xald F hP 1 (v := (nI (S 43))) rfl (by omega) (by omega) rfl dX5_tells_6 ?_
  refine lv_istore_n (lv' := [(3, .int (nI (S 43))), (0, .ref m0), (1, .int (nI v)), (2, .int (nI r))]) hx hb dX5_tells_7 rfl hl (by decide) rfl (fun ls hl => ?_)
  refine lv_aload_n hx hb dX5_tells_8 rfl (lv_at hl 1 rfl) ?_
  refine xget F hP inX5_tells_X5 0 rfl rfl 1 (by decide) lkX5_tells_1 rfl dX5_tells_9 ?_
  refine lv_bipush (v := (nI 47)) hx hb dX5_tells_12 (by decide) ?_
  refine xald F hP 1 (v := (nI (S 47))) rfl (by omega) (by omega) rfl dX5_tells_14 ?_
  rcases (show S 47 = 0 ∨ S 47 = 1 ∨ S 47 = 2 ∨ S 47 = 3 ∨ 3 < S 47 by omega) with c15 | c15 | c15 | c15 | c15
  · refine lv_tableIn (tgt := 44) hx hb dX5_tells_15 (by rw [c15]; decide) (by rw [c15]; decide) (by rw [c15]; rfl) (by decide) ?_
    refine lv_aload_n hx hb dX5_tells_44 rfl (lv_at hl 1 rfl) ?_
    refine lv_iload_n hx hb dX5_tells_45 rfl (lv_at hl 2 rfl) ?_
    refine lv_iload_n hx hb dX5_tells_46 rfl (lv_at hl 3 rfl) ?_
    refine lv_iconst (v := (nI 0)) hx hb dX5_tells_47 (by decide) ?_
    refine cVI (As := [.int (nI v), .int (nI r), .int (nI 0)]) (rest := []) F (c_X5_nearest l g m0 m1 m2 m3 m4 m5 m6 m7 m8 m9 m10 m11 m12 m13 m14 kp rn tn ia wl si S v r 0 (hO) (hv) (by omega) (by omega)) kX5_nearest rfl gX5_tells_X5_nearest rfl rfl ⟨Nat.le_of_ble_eq_true rfl, Nat.le_of_ble_eq_true rfl⟩ hP hD hS [0, 1] [] rfl rfl 0 rfl rfl hl.1 rfl rfl (Nat.le_of_ble_eq_true rfl) dX5_tells_48 ⟨Nat.le_of_ble_eq_true rfl, Nat.le_of_ble_eq_true rfl⟩ (fun rz w1 H locs hpo hP hD hS => ?_)
    obtain ⟨rfl, rfl⟩ := hpo
    obtain ⟨hP, hD⟩ := nx (ws' := [(m0, .inr (5, [.ref m1, .ref m2, .ref m3, .int (nI kp), .ref m4, .ref m5, .ref m6, .ref m7, .ref m8, .int (nI rn), .ref m9, .int (nI tn), .int (nI ia), .int (nI wl), .ref m10, .ref m11, .ref m12, .int (nI si), .ref m13, .ref m14])), (m2, .inl (eI g, 49, .inl (fun j => nI (S j))))]) hP hD [0, 1] (ndB_ok _ rfl) rfl
    exact rtI F hP hD hS dX5_tells_51 (⟨by congr 1; unfold tlS tl tellQ; simp [soN, slN, c15], rfl⟩)
  · refine lv_tableIn (tgt := 52) hx hb dX5_tells_15 (by rw [c15]; decide) (by rw [c15]; decide) (by rw [c15]; rfl) (by decide) ?_
    refine lv_aload_n hx hb dX5_tells_52 rfl (lv_at hl 1 rfl) ?_
    refine lv_iload_n hx hb dX5_tells_53 rfl (lv_at hl 2 rfl) ?_
    refine lv_iload_n hx hb dX5_tells_54 rfl (lv_at hl 3 rfl) ?_
    refine lv_iload_n hx hb dX5_tells_55 rfl (lv_at hl 0 rfl) ?_
    refine xadd hx hb dX5_tells_56 ?_
    refine lv_iconst (v := (nI 0)) hx hb dX5_tells_57 (by decide) ?_
    refine cVI (As := [.int (nI v), .int (nI (r + (S 43))), .int (nI 0)]) (rest := []) F (c_X5_nearest l g m0 m1 m2 m3 m4 m5 m6 m7 m8 m9 m10 m11 m12 m13 m14 kp rn tn ia wl si S v (r + (S 43)) 0 (hO) (hv) (by omega) (by omega)) kX5_nearest rfl gX5_tells_X5_nearest rfl rfl ⟨Nat.le_of_ble_eq_true rfl, Nat.le_of_ble_eq_true rfl⟩ hP hD hS [0, 1] [] rfl rfl 0 rfl rfl hl.1 rfl rfl (Nat.le_of_ble_eq_true rfl) dX5_tells_58 ⟨Nat.le_of_ble_eq_true rfl, Nat.le_of_ble_eq_true rfl⟩ (fun rz w1 H locs hpo hP hD hS => ?_)
    obtain ⟨rfl, rfl⟩ := hpo
    obtain ⟨hP, hD⟩ := nx (ws' := [(m0, .inr (5, [.ref m1, .ref m2, .ref m3, .int (nI kp), .ref m4, .ref m5, .ref m6, .ref m7, .ref m8, .int (nI rn), .ref m9, .int (nI tn), .int (nI ia), .int (nI wl), .ref m10, .ref m11, .ref m12, .int (nI si), .ref m13, .ref m14])), (m2, .inl (eI g, 49, .inl (fun j => nI (S j))))]) hP hD [0, 1] (ndB_ok _ rfl) rfl
    exact rtI F hP hD hS dX5_tells_61 (⟨by congr 1; unfold tlS tl tellQ; simp [soN, slN, c15], rfl⟩)
  · refine lv_tableIn (tgt := 62) hx hb dX5_tells_15 (by rw [c15]; decide) (by rw [c15]; decide) (by rw [c15]; rfl) (by decide) ?_
    refine lv_aload_n hx hb dX5_tells_62 rfl (lv_at hl 1 rfl) ?_
    refine lv_iload_n hx hb dX5_tells_63 rfl (lv_at hl 2 rfl) ?_
    refine lv_iload_n hx hb dX5_tells_64 rfl (lv_at hl 3 rfl) ?_
    refine lv_iconst (v := (nI 0)) hx hb dX5_tells_65 (by decide) ?_
    refine lv_iload_n hx hb dX5_tells_66 rfl (lv_at hl 0 rfl) ?_
    refine lv_iconst (v := (nI 1)) hx hb dX5_tells_67 (by decide) ?_
    refine lv_isub hx hb dX5_tells_68 ?_
    refine xmaxd F hl.1 lkX5_tells_2 lkX5_tells_3 lkX5_tells_4 lkX5_tells_5 (Nat.le_of_ble_eq_true rfl) (Nat.le_of_ble_eq_true rfl) ⟨Nat.le_of_ble_eq_true rfl, Nat.le_of_ble_eq_true rfl⟩ (by omega) (by omega) dX5_tells_69 ?_
    refine xadd hx hb dX5_tells_72 ?_
    refine lv_iconst (v := (nI 0)) hx hb dX5_tells_73 (by decide) ?_
    refine cVI (As := [.int (nI v), .int (nI (r + ((S 43) - 1))), .int (nI 0)]) (rest := []) F (c_X5_nearest l g m0 m1 m2 m3 m4 m5 m6 m7 m8 m9 m10 m11 m12 m13 m14 kp rn tn ia wl si S v (r + ((S 43) - 1)) 0 (hO) (hv) (by omega) (by omega)) kX5_nearest rfl gX5_tells_X5_nearest rfl rfl ⟨Nat.le_of_ble_eq_true rfl, Nat.le_of_ble_eq_true rfl⟩ hP hD hS [0, 1] [] rfl rfl 0 rfl rfl hl.1 rfl rfl (Nat.le_of_ble_eq_true rfl) dX5_tells_74 ⟨Nat.le_of_ble_eq_true rfl, Nat.le_of_ble_eq_true rfl⟩ (fun rz w1 H locs hpo hP hD hS => ?_)
    obtain ⟨rfl, rfl⟩ := hpo
    obtain ⟨hP, hD⟩ := nx (ws' := [(m0, .inr (5, [.ref m1, .ref m2, .ref m3, .int (nI kp), .ref m4, .ref m5, .ref m6, .ref m7, .ref m8, .int (nI rn), .ref m9, .int (nI tn), .int (nI ia), .int (nI wl), .ref m10, .ref m11, .ref m12, .int (nI si), .ref m13, .ref m14])), (m2, .inl (eI g, 49, .inl (fun j => nI (S j))))]) hP hD [0, 1] (ndB_ok _ rfl) rfl
    exact rtI F hP hD hS dX5_tells_77 (⟨by congr 1; unfold tlS tl tellQ; simp [soN, slN, c15], rfl⟩)
  · refine lv_tableIn (tgt := 78) hx hb dX5_tells_15 (by rw [c15]; decide) (by rw [c15]; decide) (by rw [c15]; rfl) (by decide) ?_
    refine lv_aload_n hx hb dX5_tells_78 rfl (lv_at hl 1 rfl) ?_
    refine lv_iload_n hx hb dX5_tells_79 rfl (lv_at hl 2 rfl) ?_
    refine lv_iload_n hx hb dX5_tells_80 rfl (lv_at hl 3 rfl) ?_
    refine lv_iconst (v := (nI 1)) hx hb dX5_tells_81 (by decide) ?_
    refine cVI (As := [.int (nI v), .int (nI r), .int (nI 1)]) (rest := []) F (c_X5_nearest l g m0 m1 m2 m3 m4 m5 m6 m7 m8 m9 m10 m11 m12 m13 m14 kp rn tn ia wl si S v r 1 (hO) (hv) (by omega) (by omega)) kX5_nearest rfl gX5_tells_X5_nearest rfl rfl ⟨Nat.le_of_ble_eq_true rfl, Nat.le_of_ble_eq_true rfl⟩ hP hD hS [0, 1] [] rfl rfl 0 rfl rfl hl.1 rfl rfl (Nat.le_of_ble_eq_true rfl) dX5_tells_82 ⟨Nat.le_of_ble_eq_true rfl, Nat.le_of_ble_eq_true rfl⟩ (fun rz w1 H locs hpo hP hD hS => ?_)
    obtain ⟨rfl, rfl⟩ := hpo
    obtain ⟨hP, hD⟩ := nx (ws' := [(m0, .inr (5, [.ref m1, .ref m2, .ref m3, .int (nI kp), .ref m4, .ref m5, .ref m6, .ref m7, .ref m8, .int (nI rn), .ref m9, .int (nI tn), .int (nI ia), .int (nI wl), .ref m10, .ref m11, .ref m12, .int (nI si), .ref m13, .ref m14])), (m2, .inl (eI g, 49, .inl (fun j => nI (S j))))]) hP hD [0, 1] (ndB_ok _ rfl) rfl
    exact rtI F hP hD hS dX5_tells_85 (⟨by congr 1; unfold tlS tl tellQ; simp [soN, slN, c15], rfl⟩)
  · refine lv_tableOut (tgt := 86) hx hb dX5_tells_15 (Or.inr (by rw [nI_toInt (by omega)]; omega)) (by decide) ?_
    refine lv_aload_n hx hb dX5_tells_86 rfl (lv_at hl 1 rfl) ?_
    refine lv_iload_n hx hb dX5_tells_87 rfl (lv_at hl 2 rfl) ?_
    refine lv_iload_n hx hb dX5_tells_88 rfl (lv_at hl 3 rfl) ?_
    refine lv_iconst (v := (nI 1)) hx hb dX5_tells_89 (by decide) ?_
    refine cVI (As := [.int (nI v), .int (nI r), .int (nI 1)]) (rest := []) F (c_X5_nearest l g m0 m1 m2 m3 m4 m5 m6 m7 m8 m9 m10 m11 m12 m13 m14 kp rn tn ia wl si S v r 1 (hO) (hv) (by omega) (by omega)) kX5_nearest rfl gX5_tells_X5_nearest rfl rfl ⟨Nat.le_of_ble_eq_true rfl, Nat.le_of_ble_eq_true rfl⟩ hP hD hS [0, 1] [] rfl rfl 0 rfl rfl hl.1 rfl rfl (Nat.le_of_ble_eq_true rfl) dX5_tells_90 ⟨Nat.le_of_ble_eq_true rfl, Nat.le_of_ble_eq_true rfl⟩ (fun rz w1 H locs hpo hP hD hS => ?_)
    obtain ⟨rfl, rfl⟩ := hpo
    obtain ⟨hP, hD⟩ := nx (ws' := [(m0, .inr (5, [.ref m1, .ref m2, .ref m3, .int (nI kp), .ref m4, .ref m5, .ref m6, .ref m7, .ref m8, .int (nI rn), .ref m9, .int (nI tn), .int (nI ia), .int (nI wl), .ref m10, .ref m11, .ref m12, .int (nI si), .ref m13, .ref m14])), (m2, .inl (eI g, 49, .inl (fun j => nI (S j))))]) hP hD [0, 1] (ndB_ok _ rfl) rfl
    refine lv_istore (lv' := [(4, .int (nI (nearQ (secN (S 46) (S 41) (S 42) v) r (decide (1 = 1)) (S 41 - 1)))), (3, .int (nI (S 43))), (0, .ref m0), (1, .int (nI v)), (2, .int (nI r))]) hx hb dX5_tells_93 hl (by decide) rfl (fun ls hl => ?_)
    refine lv_aload_n hx hb dX5_tells_95 rfl (lv_at hl 2 rfl) ?_
    refine lv_iload_n hx hb dX5_tells_96 rfl (lv_at hl 3 rfl) ?_
    refine lv_iload hx hb dX5_tells_97 (lv_at hl 0 rfl) ?_
    refine cVI (As := [.int (nI v), .int (nI (nearQ (secN (S 46) (S 41) (S 42) v) r (decide (1 = 1)) (S 41 - 1)))]) (rest := []) F (c_X5_seconds l g m0 m1 m2 m3 m4 m5 m6 m7 m8 m9 m10 m11 m12 m13 m14 kp rn tn ia wl si S v (nearQ (secN (S 46) (S 41) (S 42) v) r (decide (1 = 1)) (S 41 - 1)) (hO) (hv) (by have := nearQ_le (secN (S 46) (S 41) (S 42) v) r (decide (1 = 1)) (S 41 - 1); omega)) kX5_seconds rfl gX5_tells_X5_seconds rfl rfl ⟨Nat.le_of_ble_eq_true rfl, Nat.le_of_ble_eq_true rfl⟩ hP hD hS [0, 1] [] rfl rfl 0 rfl rfl hl.1 rfl rfl (Nat.le_of_ble_eq_true rfl) dX5_tells_99 ⟨Nat.le_of_ble_eq_true rfl, Nat.le_of_ble_eq_true rfl⟩ (fun rz w1 H locs hpo hP hD hS => ?_)
    obtain ⟨rfl, rfl⟩ := hpo
    obtain ⟨hP, hD⟩ := nx (ws' := [(m0, .inr (5, [.ref m1, .ref m2, .ref m3, .int (nI kp), .ref m4, .ref m5, .ref m6, .ref m7, .ref m8, .int (nI rn), .ref m9, .int (nI tn), .int (nI ia), .int (nI wl), .ref m10, .ref m11, .ref m12, .int (nI si), .ref m13, .ref m14])), (m2, .inl (eI g, 49, .inl (fun j => nI (S j))))]) hP hD [0, 1] (ndB_ok _ rfl) rfl
    have hsb6 := secN_le (S 46) (S 41) (S 42) v (nearQ (secN (S 46) (S 41) (S 42) v) r (decide (1 = 1)) (S 41 - 1))
    refine lv_iload_n hx hb dX5_tells_102 rfl (lv_at hl 4 rfl) ?_
    refine lv_isub hx hb dX5_tells_103 ?_
    refine xabs F hl.1 lkX5_tells_6 lkX5_tells_7 lkX5_tells_4 lkX5_tells_8 (Nat.le_of_ble_eq_true rfl) (Nat.le_of_ble_eq_true rfl) ⟨Nat.le_of_ble_eq_true rfl, Nat.le_of_ble_eq_true rfl⟩ (by omega) (by omega) dX5_tells_104 ?_
    refine lv_iload_n hx hb dX5_tells_107 rfl (lv_at hl 1 rfl) ?_
    refine xle (tgt := 116) hx hb dX5_tells_108 (by decide) (by have := dst_le (show secN (S 46) (S 41) (S 42) v (nearQ (secN (S 46) (S 41) (S 42) v) r (decide (1 = 1)) (S 41 - 1)) ≤ 240 by omega) (show r ≤ 240 by omega); omega) (by omega) (fun c108 => ?_) (fun c108 => ?_)
    · skip
      refine lv_iload hx hb dX5_tells_116 (lv_at hl 0 rfl) ?_
      exact rtI F hP hD hS dX5_tells_118 (⟨by rw [tlS_4 (by omega), if_neg (by omega)], rfl⟩)
    · skip
      refine lv_bipush (v := (nI 8)) hx hb dX5_tells_111 (by decide) ?_
      refine lv_goto (tgt := 118) hx hb dX5_tells_113 (by decide) ?_
      exact rtI F hP hD hS dX5_tells_118 (⟨by rw [tlS_4 (by omega), if_pos c108], rfl⟩)
