theorem inX5_part_X5 : ∀ w ∈ u_ws RX5 TX5 20, w ∈ wsX5_part := fun _ h => (List.mem_cons_of_mem _ (List.mem_append_right _ h))
theorem lkX5_part_3 : Cond.fieldLink RX5 25 "StripInFiveStepsModel" "of" "[I" ∈ wsX5_part := List.mem_of_getElem? (i := 3) rfl
theorem lkX5_part_1 : Cond.fieldLink RX5 28 "StripInFiveStepsModel" "many" "[I" ∈ wsX5_part := List.mem_of_getElem? (i := 1) rfl
theorem lkX5_part_2 : Cond.fieldLink RX5 31 "StripInFiveStepsModel" "weigh" "[I" ∈ wsX5_part := List.mem_of_getElem? (i := 2) rfl
theorem kX5_part : Cal yX5_part wsX5_part cX5_part 4 none 2 := ⟨⟨_, rfl⟩, by decide +kernel⟩
set_option maxHeartbeats 4000000 in
set_option maxRecDepth 100000 in
theorem nc_X5_part (l : Launch) (g : EE) (m0 : Nat) (m1 : Nat) (m2 : Nat) (m3 : Nat) (m4 : Nat) (m5 : Nat) (m6 : Nat) (m7 : Nat) (m8 : Nat) (m9 : Nat) (m10 : Nat) (m11 : Nat) (m12 : Nat) (m13 : Nat) (m14 : Nat) (kp : Nat) (rn : Nat) (tn : Nat) (ia : Nat) (wl : Nat) (si : Nat) (S : Nat → Nat) (O : Nat → Int32) (Y : Nat → Nat) (Z : Nat → Nat) (v : Nat) (hO : okS S) (hv : v ≤ 40) : CV l yX5_part wsX5_part ({ frames := 4, cells := 0, slots := 0, locals := 90 }) g [.ref m0, .ref m2, .int (nI v)] [(m0, .inr (5, [.ref m1, .ref m2, .ref m3, .int (nI kp), .ref m4, .ref m5, .ref m6, .ref m7, .ref m8, .int (nI rn), .ref m9, .int (nI tn), .int (nI ia), .int (nI wl), .ref m10, .ref m11, .ref m12, .int (nI si), .ref m13, .ref m14])), (m2, .inl (eI g, 49, .inl (fun j => nI (S j)))), (m4, .inl (eI g, 41, .inl O)), (m5, .inl (eI g, 9, .inl (fun j => nI (Y j)))), (m6, .inl (eI g, 9, .inl (fun j => nI (Z j))))] (fun (wz : va_W) => wz = [(m0, .inr (5, [.ref m1, .ref m2, .ref m3, .int (nI kp), .ref m4, .ref m5, .ref m6, .ref m7, .ref m8, .int (nI rn), .ref m9, .int (nI tn), .int (nI ia), .int (nI wl), .ref m10, .ref m11, .ref m12, .int (nI si), .ref m13, .ref m14])), (m2, .inl (eI g, 49, .inl (fun j => nI (S j)))), (m4, .inl (eI g, 41, .inl (ofF O S (tlS S) v 40))), (m5, .inl (eI g, 9, .inl (fun j => nI ((myF S S v) j)))), (m6, .inl (eI g, 9, .inl (fun j => nI ((weF S S v) j))))]) 0 0 := by
  refine ctV (cc := cX5_part) (maxL := 4) (ret := none) (by decide) rfl (Nat.le_of_ble_eq_true rfl) ?_
  intro p_ e_ s_ m_ bl_ mt_ cd_ A ls F hnm hP hD hS hl
  obtain ⟨hx, hb, hml, hown, hts, hK, hX, hA, hrt_, hlocks⟩ := id F
  have hl : lv_has ls 4 [(0, .ref m0), (1, .ref m2), (2, .int (nI v))] := hl
  refine lv_iconst (v := (nI 0)) hx hb dX5_part_0 (by decide) ?_
  refine lv_istore_n (lv' := [(3, .int (nI 0)), (0, .ref m0), (1, .ref m2), (2, .int (nI v))]) hx hb dX5_part_1 rfl hl (by decide) rfl (fun ls hl => ?_)
  refine xlo (σ := Nat × (Nat → Nat) × (Nat → Nat)) 4 (fun xz_ => (fun (k : Nat) (y : Nat → Nat) (z : Nat → Nat) => [(0, .ref m0), (1, .ref m2), (2, .int (nI v)), (3, .int (nI k))]) xz_.1 xz_.2.1 xz_.2.2) (fun xz_ => (fun (k : Nat) (y : Nat → Nat) (z : Nat → Nat) => [(m0, .inr (5, [.ref m1, .ref m2, .ref m3, .int (nI kp), .ref m4, .ref m5, .ref m6, .ref m7, .ref m8, .int (nI rn), .ref m9, .int (nI tn), .int (nI ia), .int (nI wl), .ref m10, .ref m11, .ref m12, .int (nI si), .ref m13, .ref m14])), (m2, .inl (eI g, 49, .inl (fun j => nI (S j)))), (m4, .inl (eI g, 41, .inl O)), (m5, .inl (eI g, 9, .inl (fun j => nI (y j)))), (m6, .inl (eI g, 9, .inl (fun j => nI (z j))))]) xz_.1 xz_.2.1 xz_.2.2) (fun xz_ => (fun (k : Nat) (y : Nat → Nat) (z : Nat → Nat) => (∀ j, j < k → y j = 0) ∧ (∀ j, j < k → z j = 0) ∧ k ≤ 9) xz_.1 xz_.2.1 xz_.2.2) (fun xz_ => (fun (k : Nat) (y : Nat → Nat) (z : Nat → Nat) => 9 - k) xz_.1 xz_.2.1 xz_.2.2) (fun xz_ hI ih2 H locs ls hP hD hS hl => ?_) (0, Y, Z) (show (∀ j, j < 0 → Y j = 0) ∧ (∀ j, j < 0 → Z j = 0) ∧ 0 ≤ 9 from (⟨fun j hj => by omega, fun j hj => by omega, by omega⟩)) hP hD hS (lv_sub hl [1, 2, 3, 0] rfl)
  obtain ⟨k, y, z⟩ := xz_
  have hP : va_P (eD g) vwCl [(m0, .inr (5, [.ref m1, .ref m2, .ref m3, .int (nI kp), .ref m4, .ref m5, .ref m6, .ref m7, .ref m8, .int (nI rn), .ref m9, .int (nI tn), .int (nI ia), .int (nI wl), .ref m10, .ref m11, .ref m12, .int (nI si), .ref m13, .ref m14])), (m2, .inl (eI g, 49, .inl (fun j => nI (S j)))), (m4, .inl (eI g, 41, .inl O)), (m5, .inl (eI g, 9, .inl (fun j => nI (y j)))), (m6, .inl (eI g, 9, .inl (fun j => nI (z j))))] H := hP
  have hD : va_D A [(m0, .inr (5, [.ref m1, .ref m2, .ref m3, .int (nI kp), .ref m4, .ref m5, .ref m6, .ref m7, .ref m8, .int (nI rn), .ref m9, .int (nI tn), .int (nI ia), .int (nI wl), .ref m10, .ref m11, .ref m12, .int (nI si), .ref m13, .ref m14])), (m2, .inl (eI g, 49, .inl (fun j => nI (S j)))), (m4, .inl (eI g, 41, .inl O)), (m5, .inl (eI g, 9, .inl (fun j => nI (y j)))), (m6, .inl (eI g, 9, .inl (fun j => nI (z j))))] := hD
  have hl : lv_has ls 4 [(0, .ref m0), (1, .ref m2), (2, .int (nI v)), (3, .int (nI k))] := hl
  have hI2 : (∀ j, j < k → y j = 0) ∧ (∀ j, j < k → z j = 0) ∧ k ≤ 9 := hI
  clear hI
  obtain ⟨hy, hz, hk⟩ := id hI2
  refine lv_iload_n hx hb dX5_part_2 rfl (lv_at hl 3 rfl) ?_
  refine lv_bipush (v := (nI 8)) hx hb dX5_part_3 (by decide) ?_
  refine xgt (tgt := 28) hx hb dX5_part_5 (by decide) (by omega) (by omega) (fun c5 => ?_) (fun c5 => ?_)
  · skip
    obtain ⟨hP, hD⟩ := recN (f' := fun j => nI ((fun _ => 0) j)) hP hD 3 rfl (fun j hj => congrArg nI (hy j (by omega)))
    have hP : va_P (eD g) vwCl [(m0, .inr (5, [.ref m1, .ref m2, .ref m3, .int (nI kp), .ref m4, .ref m5, .ref m6, .ref m7, .ref m8, .int (nI rn), .ref m9, .int (nI tn), .int (nI ia), .int (nI wl), .ref m10, .ref m11, .ref m12, .int (nI si), .ref m13, .ref m14])), (m2, .inl (eI g, 49, .inl (fun j => nI (S j)))), (m4, .inl (eI g, 41, .inl O)), (m5, .inl (eI g, 9, .inl (fun j => nI ((fun _ => 0) j)))), (m6, .inl (eI g, 9, .inl (fun j => nI (z j))))] H := hP
    have hD : va_D A [(m0, .inr (5, [.ref m1, .ref m2, .ref m3, .int (nI kp), .ref m4, .ref m5, .ref m6, .ref m7, .ref m8, .int (nI rn), .ref m9, .int (nI tn), .int (nI ia), .int (nI wl), .ref m10, .ref m11, .ref m12, .int (nI si), .ref m13, .ref m14])), (m2, .inl (eI g, 49, .inl (fun j => nI (S j)))), (m4, .inl (eI g, 41, .inl O)), (m5, .inl (eI g, 9, .inl (fun j => nI ((fun _ => 0) j)))), (m6, .inl (eI g, 9, .inl (fun j => nI (z j))))] := hD
    obtain ⟨hP, hD⟩ := recN (f' := fun j => nI ((fun _ => 0) j)) hP hD 4 rfl (fun j hj => congrArg nI (hz j (by omega)))
    have hP : va_P (eD g) vwCl [(m0, .inr (5, [.ref m1, .ref m2, .ref m3, .int (nI kp), .ref m4, .ref m5, .ref m6, .ref m7, .ref m8, .int (nI rn), .ref m9, .int (nI tn), .int (nI ia), .int (nI wl), .ref m10, .ref m11, .ref m12, .int (nI si), .ref m13, .ref m14])), (m2, .inl (eI g, 49, .inl (fun j => nI (S j)))), (m4, .inl (eI g, 41, .inl O)), (m5, .inl (eI g, 9, .inl (fun j => nI ((fun _ => 0) j)))), (m6, .inl (eI g, 9, .inl (fun j => nI ((fun _ => 0) j))))] H := hP
    have hD : va_D A [(m0, .inr (5, [.ref m1, .ref m2, .ref m3, .int (nI kp), .ref m4, .ref m5, .ref m6, .ref m7, .ref m8, .int (nI rn), .ref m9, .int (nI tn), .int (nI ia), .int (nI wl), .ref m10, .ref m11, .ref m12, .int (nI si), .ref m13, .ref m14])), (m2, .inl (eI g, 49, .inl (fun j => nI (S j)))), (m4, .inl (eI g, 41, .inl O)), (m5, .inl (eI g, 9, .inl (fun j => nI ((fun _ => 0) j)))), (m6, .inl (eI g, 9, .inl (fun j => nI ((fun _ => 0) j))))] := hD
    refine lv_iconst (v := (nI 1)) hx hb dX5_part_28 (by decide) ?_
    refine lv_istore_n (lv' := [(3, .int (nI 1)), (0, .ref m0), (1, .ref m2), (2, .int (nI v))]) hx hb dX5_part_29 rfl hl (by decide) rfl (fun ls hl => ?_)
    refine xlo (σ := Nat × (Nat → Int32) × (Nat → Nat) × (Nat → Nat)) 4 (fun xz_ => (fun (i : Nat) (o : Nat → Int32) (y2 : Nat → Nat) (z2 : Nat → Nat) => [(0, .ref m0), (1, .ref m2), (2, .int (nI v)), (3, .int (nI i))]) xz_.1 xz_.2.1 xz_.2.2.1 xz_.2.2.2) (fun xz_ => (fun (i : Nat) (o : Nat → Int32) (y2 : Nat → Nat) (z2 : Nat → Nat) => [(m0, .inr (5, [.ref m1, .ref m2, .ref m3, .int (nI kp), .ref m4, .ref m5, .ref m6, .ref m7, .ref m8, .int (nI rn), .ref m9, .int (nI tn), .int (nI ia), .int (nI wl), .ref m10, .ref m11, .ref m12, .int (nI si), .ref m13, .ref m14])), (m2, .inl (eI g, 49, .inl (fun j => nI (S j)))), (m4, .inl (eI g, 41, .inl o)), (m5, .inl (eI g, 9, .inl (fun j => nI (y2 j)))), (m6, .inl (eI g, 9, .inl (fun j => nI (z2 j))))]) xz_.1 xz_.2.1 xz_.2.2.1 xz_.2.2.2) (fun xz_ => (fun (i : Nat) (o : Nat → Int32) (y2 : Nat → Nat) (z2 : Nat → Nat) => o = ofF O S (tlS S) v (i - 1) ∧ y2 = cnN S (tlS S) v (i - 1) ∧ z2 = weN S (tlS S) v (i - 1) ∧ 1 ≤ i ∧ i ≤ 41) xz_.1 xz_.2.1 xz_.2.2.1 xz_.2.2.2) (fun xz_ => (fun (i : Nat) (o : Nat → Int32) (y2 : Nat → Nat) (z2 : Nat → Nat) => 41 - i) xz_.1 xz_.2.1 xz_.2.2.1 xz_.2.2.2) (fun xz_ hI ih30 H locs ls hP hD hS hl => ?_) (1, O, (fun _ => 0), (fun _ => 0)) (show O = ofF O S (tlS S) v (1 - 1) ∧ (fun _ => 0) = cnN S (tlS S) v (1 - 1) ∧ (fun _ => 0) = weN S (tlS S) v (1 - 1) ∧ 1 ≤ 1 ∧ 1 ≤ 41 from (⟨ofF_0.symm, rfl, rfl, by omega, by omega⟩)) hP hD hS (lv_sub hl [1, 2, 3, 0] rfl)
    obtain ⟨i, o, y2, z2⟩ := xz_
    have hP : va_P (eD g) vwCl [(m0, .inr (5, [.ref m1, .ref m2, .ref m3, .int (nI kp), .ref m4, .ref m5, .ref m6, .ref m7, .ref m8, .int (nI rn), .ref m9, .int (nI tn), .int (nI ia), .int (nI wl), .ref m10, .ref m11, .ref m12, .int (nI si), .ref m13, .ref m14])), (m2, .inl (eI g, 49, .inl (fun j => nI (S j)))), (m4, .inl (eI g, 41, .inl o)), (m5, .inl (eI g, 9, .inl (fun j => nI (y2 j)))), (m6, .inl (eI g, 9, .inl (fun j => nI (z2 j))))] H := hP
    have hD : va_D A [(m0, .inr (5, [.ref m1, .ref m2, .ref m3, .int (nI kp), .ref m4, .ref m5, .ref m6, .ref m7, .ref m8, .int (nI rn), .ref m9, .int (nI tn), .int (nI ia), .int (nI wl), .ref m10, .ref m11, .ref m12, .int (nI si), .ref m13, .ref m14])), (m2, .inl (eI g, 49, .inl (fun j => nI (S j)))), (m4, .inl (eI g, 41, .inl o)), (m5, .inl (eI g, 9, .inl (fun j => nI (y2 j)))), (m6, .inl (eI g, 9, .inl (fun j => nI (z2 j))))] := hD
    have hl : lv_has ls 4 [(0, .ref m0), (1, .ref m2), (2, .int (nI v)), (3, .int (nI i))] := hl
    have hI30 : o = ofF O S (tlS S) v (i - 1) ∧ y2 = cnN S (tlS S) v (i - 1) ∧ z2 = weN S (tlS S) v (i - 1) ∧ 1 ≤ i ∧ i ≤ 41 := hI
    clear hI
    obtain ⟨ho, hy2, hz2, hi1, hi2⟩ := id hI30
    refine lv_iload_n hx hb dX5_part_30 rfl (lv_at hl 3 rfl) ?_
    refine lv_bipush (v := (nI 40)) hx hb dX5_part_31 (by decide) ?_
    refine xgt (tgt := 100) hx hb dX5_part_33 (by decide) (by omega) (by omega) (fun c33 => ?_) (fun c33 => ?_)
    · skip
      exact rtV F hP hD hS dX5_part_100 (by rw [ho, hy2, hz2, show i - 1 = 40 by omega, cnN_40, weN_40]; rfl)
    · skip
      refine lv_aload_n hx hb dX5_part_36 rfl (lv_at hl 0 rfl) ?_
      refine xget F hP inX5_part_X5 0 rfl rfl 4 (by decide) lkX5_part_3 rfl dX5_part_37 ?_
      refine lv_iload_n hx hb dX5_part_40 rfl (lv_at hl 3 rfl) ?_
      refine lv_bipush (v := (-9)) hx hb dX5_part_41 (by decide) ?_
      refine xast F hP hD hS 2 (f' := (upd o i (-9))) rfl (by omega) (by omega) (rfl) dX5_part_43 (fun H locs hP hD hS => ?_)
      have hP : va_P (eD g) vwCl [(m0, .inr (5, [.ref m1, .ref m2, .ref m3, .int (nI kp), .ref m4, .ref m5, .ref m6, .ref m7, .ref m8, .int (nI rn), .ref m9, .int (nI tn), .int (nI ia), .int (nI wl), .ref m10, .ref m11, .ref m12, .int (nI si), .ref m13, .ref m14])), (m2, .inl (eI g, 49, .inl (fun j => nI (S j)))), (m4, .inl (eI g, 41, .inl (upd o i (-9)))), (m5, .inl (eI g, 9, .inl (fun j => nI (y2 j)))), (m6, .inl (eI g, 9, .inl (fun j => nI (z2 j))))] H := hP
      have hD : va_D A [(m0, .inr (5, [.ref m1, .ref m2, .ref m3, .int (nI kp), .ref m4, .ref m5, .ref m6, .ref m7, .ref m8, .int (nI rn), .ref m9, .int (nI tn), .int (nI ia), .int (nI wl), .ref m10, .ref m11, .ref m12, .int (nI si), .ref m13, .ref m14])), (m2, .inl (eI g, 49, .inl (fun j => nI (S j)))), (m4, .inl (eI g, 41, .inl (upd o i (-9)))), (m5, .inl (eI g, 9, .inl (fun j => nI (y2 j)))), (m6, .inl (eI g, 9, .inl (fun j => nI (z2 j))))] := hD
      refine lv_aload_n hx hb dX5_part_44 rfl (lv_at hl 1 rfl) ?_
      refine lv_iload_n hx hb dX5_part_45 rfl (lv_at hl 3 rfl) ?_
      refine xald F hP 1 (v := (nI (S i))) rfl (by omega) (by omega) rfl dX5_part_46 ?_
      have hbd1 := hO.1 (i) (by omega)
      refine zle (tgt := 94) hx hb dX5_part_47 (by decide) (by omega) (fun c47 => ?_) (fun c47 => ?_)
      · skip
        refine lv_iinc (v := (nI (i + 1))) (lv' := [(3, .int (nI (i + 1))), (0, .ref m0), (1, .ref m2), (2, .int (nI v))]) hx hb dX5_part_94 hl (k := 3) rfl (iincP i 1) (by decide) rfl (fun ls hl => ?_)
        refine lv_goto (tgt := 30) hx hb dX5_part_97 (by decide) ?_
        exact ih30 (i + 1, (upd o i (-9)), y2, z2) (show (upd o i (-9)) = ofF O S (tlS S) v ((i + 1) - 1) ∧ y2 = cnN S (tlS S) v ((i + 1) - 1) ∧ z2 = weN S (tlS S) v ((i + 1) - 1) ∧ 1 ≤ (i + 1) ∧ (i + 1) ≤ 41 from (⟨by rw [ho]; exact ofF_step (by omega) (if_pos c47).symm, by rw [hy2]; exact cnN_skip (by omega) c47, by rw [hz2]; exact weN_skip (by omega) c47, by omega, by omega⟩)) (show 41 - (i + 1) < 41 - i from (by omega)) _ _ _ hP hD hS (lv_sub hl [1, 2, 3, 0] rfl)
      · skip
        refine lv_aload_n hx hb dX5_part_50 rfl (lv_at hl 0 rfl) ?_
        refine xget F hP inX5_part_X5 0 rfl rfl 4 (by decide) lkX5_part_3 rfl dX5_part_51 ?_
        refine lv_iload_n hx hb dX5_part_54 rfl (lv_at hl 3 rfl) ?_
        refine lv_aload_n hx hb dX5_part_55 rfl (lv_at hl 0 rfl) ?_
        refine lv_iload_n hx hb dX5_part_56 rfl (lv_at hl 2 rfl) ?_
        refine lv_iload_n hx hb dX5_part_57 rfl (lv_at hl 3 rfl) ?_
        refine cVI (As := [.int (nI v), .int (nI i)]) (rest := [.int (nI i), .ref m4]) F (c_X5_tells l g m0 m1 m2 m3 m4 m5 m6 m7 m8 m9 m10 m11 m12 m13 m14 kp rn tn ia wl si S v i (hO) (hv) (by omega)) kX5_tells rfl gX5_part_X5_tells rfl rfl ⟨Nat.le_of_ble_eq_true rfl, Nat.le_of_ble_eq_true rfl⟩ hP hD hS [0, 1] [2, 3, 4] rfl rfl 0 rfl rfl hl.1 rfl rfl (Nat.le_of_ble_eq_true rfl) dX5_part_58 ⟨Nat.le_of_ble_eq_true rfl, Nat.le_of_ble_eq_true rfl⟩ (fun rz w1 H locs hpo hP hD hS => ?_)
        obtain ⟨rfl, rfl⟩ := hpo
        obtain ⟨hP, hD⟩ := nx (ws' := [(m0, .inr (5, [.ref m1, .ref m2, .ref m3, .int (nI kp), .ref m4, .ref m5, .ref m6, .ref m7, .ref m8, .int (nI rn), .ref m9, .int (nI tn), .int (nI ia), .int (nI wl), .ref m10, .ref m11, .ref m12, .int (nI si), .ref m13, .ref m14])), (m2, .inl (eI g, 49, .inl (fun j => nI (S j)))), (m4, .inl (eI g, 41, .inl (upd o i (-9)))), (m5, .inl (eI g, 9, .inl (fun j => nI (y2 j)))), (m6, .inl (eI g, 9, .inl (fun j => nI (z2 j))))]) hP hD [3, 4, 0, 1, 2] (ndB_ok _ rfl) rfl
        have ht9 := tlS_9 hO v i
        refine xast F hP hD hS 2 (f' := (upd (upd o i (-9)) i (nI (tlS S v i)))) rfl (by omega) (by omega) (rfl) dX5_part_61 (fun H locs hP hD hS => ?_)
        have hP : va_P (eD g) vwCl [(m0, .inr (5, [.ref m1, .ref m2, .ref m3, .int (nI kp), .ref m4, .ref m5, .ref m6, .ref m7, .ref m8, .int (nI rn), .ref m9, .int (nI tn), .int (nI ia), .int (nI wl), .ref m10, .ref m11, .ref m12, .int (nI si), .ref m13, .ref m14])), (m2, .inl (eI g, 49, .inl (fun j => nI (S j)))), (m4, .inl (eI g, 41, .inl (upd (upd o i (-9)) i (nI (tlS S v i))))), (m5, .inl (eI g, 9, .inl (fun j => nI (y2 j)))), (m6, .inl (eI g, 9, .inl (fun j => nI (z2 j))))] H := hP
        have hD : va_D A [(m0, .inr (5, [.ref m1, .ref m2, .ref m3, .int (nI kp), .ref m4, .ref m5, .ref m6, .ref m7, .ref m8, .int (nI rn), .ref m9, .int (nI tn), .int (nI ia), .int (nI wl), .ref m10, .ref m11, .ref m12, .int (nI si), .ref m13, .ref m14])), (m2, .inl (eI g, 49, .inl (fun j => nI (S j)))), (m4, .inl (eI g, 41, .inl (upd (upd o i (-9)) i (nI (tlS S v i))))), (m5, .inl (eI g, 9, .inl (fun j => nI (y2 j)))), (m6, .inl (eI g, 9, .inl (fun j => nI (z2 j))))] := hD
        refine lv_aload_n hx hb dX5_part_62 rfl (lv_at hl 0 rfl) ?_
        refine xget F hP inX5_part_X5 0 rfl rfl 5 (by decide) lkX5_part_1 rfl dX5_part_63 ?_
        refine lv_aload_n hx hb dX5_part_66 rfl (lv_at hl 0 rfl) ?_
        refine xget F hP inX5_part_X5 0 rfl rfl 4 (by decide) lkX5_part_3 rfl dX5_part_67 ?_
        refine lv_iload_n hx hb dX5_part_70 rfl (lv_at hl 3 rfl) ?_
        refine xald F hP 2 (v := ((upd (upd o i (-9)) i (nI (tlS S v i))) i)) rfl (by omega) (by omega) rfl dX5_part_71 ?_
        refine sti (show ((upd (upd o i (-9)) i (nI (tlS S v i))) i) = nI (tlS S v i) from upd_at _ _ _) ?_
        refine lv_dup2_11 hx hb dX5_part_72 rfl rfl ?_
        refine xald F hP 3 (v := (nI (y2 (tlS S v i)))) rfl (by omega) (by omega) rfl dX5_part_73 ?_
        refine lv_iconst (v := (nI 1)) hx hb dX5_part_74 (by decide) ?_
        refine xadd hx hb dX5_part_75 ?_
        refine xast F hP hD hS 3 (f' := fun j => nI ((updN y2 (tlS S v i) ((y2 (tlS S v i)) + 1)) j)) rfl (by omega) (by omega) (upd_nI y2 (tlS S v i) ((y2 (tlS S v i)) + 1)) dX5_part_76 (fun H locs hP hD hS => ?_)
        have hP : va_P (eD g) vwCl [(m0, .inr (5, [.ref m1, .ref m2, .ref m3, .int (nI kp), .ref m4, .ref m5, .ref m6, .ref m7, .ref m8, .int (nI rn), .ref m9, .int (nI tn), .int (nI ia), .int (nI wl), .ref m10, .ref m11, .ref m12, .int (nI si), .ref m13, .ref m14])), (m2, .inl (eI g, 49, .inl (fun j => nI (S j)))), (m4, .inl (eI g, 41, .inl (upd (upd o i (-9)) i (nI (tlS S v i))))), (m5, .inl (eI g, 9, .inl (fun j => nI ((updN y2 (tlS S v i) ((y2 (tlS S v i)) + 1)) j)))), (m6, .inl (eI g, 9, .inl (fun j => nI (z2 j))))] H := hP
        have hD : va_D A [(m0, .inr (5, [.ref m1, .ref m2, .ref m3, .int (nI kp), .ref m4, .ref m5, .ref m6, .ref m7, .ref m8, .int (nI rn), .ref m9, .int (nI tn), .int (nI ia), .int (nI wl), .ref m10, .ref m11, .ref m12, .int (nI si), .ref m13, .ref m14])), (m2, .inl (eI g, 49, .inl (fun j => nI (S j)))), (m4, .inl (eI g, 41, .inl (upd (upd o i (-9)) i (nI (tlS S v i))))), (m5, .inl (eI g, 9, .inl (fun j => nI ((updN y2 (tlS S v i) ((y2 (tlS S v i)) + 1)) j)))), (m6, .inl (eI g, 9, .inl (fun j => nI (z2 j))))] := hD
        refine lv_aload_n hx hb dX5_part_77 rfl (lv_at hl 0 rfl) ?_
        refine xget F hP inX5_part_X5 0 rfl rfl 6 (by decide) lkX5_part_2 rfl dX5_part_78 ?_
        refine lv_aload_n hx hb dX5_part_81 rfl (lv_at hl 0 rfl) ?_
        refine xget F hP inX5_part_X5 0 rfl rfl 4 (by decide) lkX5_part_3 rfl dX5_part_82 ?_
        refine lv_iload_n hx hb dX5_part_85 rfl (lv_at hl 3 rfl) ?_
        refine xald F hP 2 (v := ((upd (upd o i (-9)) i (nI (tlS S v i))) i)) rfl (by omega) (by omega) rfl dX5_part_86 ?_
        refine sti (show ((upd (upd o i (-9)) i (nI (tlS S v i))) i) = nI (tlS S v i) from upd_at _ _ _) ?_
        refine lv_dup2_11 hx hb dX5_part_87 rfl rfl ?_
        refine xald F hP 4 (v := (nI (z2 (tlS S v i)))) rfl (by omega) (by omega) rfl dX5_part_88 ?_
        refine lv_aload_n hx hb dX5_part_89 rfl (lv_at hl 1 rfl) ?_
        refine lv_iload_n hx hb dX5_part_90 rfl (lv_at hl 3 rfl) ?_
        refine xald F hP 1 (v := (nI (S i))) rfl (by omega) (by omega) rfl dX5_part_91 ?_
        have hbd3 := hO.1 (i) (by omega)
        refine xadd hx hb dX5_part_92 ?_
        refine xast F hP hD hS 4 (f' := fun j => nI ((updN z2 (tlS S v i) ((z2 (tlS S v i)) + (S i))) j)) rfl (by omega) (by omega) (upd_nI z2 (tlS S v i) ((z2 (tlS S v i)) + (S i))) dX5_part_93 (fun H locs hP hD hS => ?_)
        have hP : va_P (eD g) vwCl [(m0, .inr (5, [.ref m1, .ref m2, .ref m3, .int (nI kp), .ref m4, .ref m5, .ref m6, .ref m7, .ref m8, .int (nI rn), .ref m9, .int (nI tn), .int (nI ia), .int (nI wl), .ref m10, .ref m11, .ref m12, .int (nI si), .ref m13, .ref m14])), (m2, .inl (eI g, 49, .inl (fun j => nI (S j)))), (m4, .inl (eI g, 41, .inl (upd (upd o i (-9)) i (nI (tlS S v i))))), (m5, .inl (eI g, 9, .inl (fun j => nI ((updN y2 (tlS S v i) ((y2 (tlS S v i)) + 1)) j)))), (m6, .inl (eI g, 9, .inl (fun j => nI ((updN z2 (tlS S v i) ((z2 (tlS S v i)) + (S i))) j))))] H := hP
        have hD : va_D A [(m0, .inr (5, [.ref m1, .ref m2, .ref m3, .int (nI kp), .ref m4, .ref m5, .ref m6, .ref m7, .ref m8, .int (nI rn), .ref m9, .int (nI tn), .int (nI ia), .int (nI wl), .ref m10, .ref m11, .ref m12, .int (nI si), .ref m13, .ref m14])), (m2, .inl (eI g, 49, .inl (fun j => nI (S j)))), (m4, .inl (eI g, 41, .inl (upd (upd o i (-9)) i (nI (tlS S v i))))), (m5, .inl (eI g, 9, .inl (fun j => nI ((updN y2 (tlS S v i) ((y2 (tlS S v i)) + 1)) j)))), (m6, .inl (eI g, 9, .inl (fun j => nI ((updN z2 (tlS S v i) ((z2 (tlS S v i)) + (S i))) j))))] := hD
        refine lv_iinc (v := (nI (i + 1))) (lv' := [(3, .int (nI (i + 1))), (0, .ref m0), (1, .ref m2), (2, .int (nI v))]) hx hb dX5_part_94 hl (k := 3) rfl (iincP i 1) (by decide) rfl (fun ls hl => ?_)
        refine lv_goto (tgt := 30) hx hb dX5_part_97 (by decide) ?_
        exact ih30 (i + 1, (upd (upd o i (-9)) i (nI (tlS S v i))), (updN y2 (tlS S v i) ((y2 (tlS S v i)) + 1)), (updN z2 (tlS S v i) ((z2 (tlS S v i)) + (S i)))) (show (upd (upd o i (-9)) i (nI (tlS S v i))) = ofF O S (tlS S) v ((i + 1) - 1) ∧ (updN y2 (tlS S v i) ((y2 (tlS S v i)) + 1)) = cnN S (tlS S) v ((i + 1) - 1) ∧ (updN z2 (tlS S v i) ((z2 (tlS S v i)) + (S i))) = weN S (tlS S) v ((i + 1) - 1) ∧ 1 ≤ (i + 1) ∧ (i + 1) ≤ 41 from (⟨by rw [ho, upd_upd]; exact ofF_step (by omega) (if_neg c47).symm, by rw [hy2]; exact cnN_step (by omega) c47, by rw [hz2]; exact weN_step (by omega) c47, by omega, by omega⟩)) (show 41 - (i + 1) < 41 - i from (by omega)) _ _ _ hP hD hS (lv_sub hl [1, 2, 3, 0] rfl)
  · skip
    refine lv_aload_n hx hb dX5_part_8 rfl (lv_at hl 0 rfl) ?_
    refine xget F hP inX5_part_X5 0 rfl rfl 5 (by decide) lkX5_part_1 rfl dX5_part_9 ?_
    refine lv_iload_n hx hb dX5_part_12 rfl (lv_at hl 3 rfl) ?_
    refine lv_iconst (v := (nI 0)) hx hb dX5_part_13 (by decide) ?_
    refine xast F hP hD hS 3 (f' := fun j => nI ((updN y k 0) j)) rfl (by omega) (by omega) (upd_nI y k 0) dX5_part_14 (fun H locs hP hD hS => ?_)
    have hP : va_P (eD g) vwCl [(m0, .inr (5, [.ref m1, .ref m2, .ref m3, .int (nI kp), .ref m4, .ref m5, .ref m6, .ref m7, .ref m8, .int (nI rn), .ref m9, .int (nI tn), .int (nI ia), .int (nI wl), .ref m10, .ref m11, .ref m12, .int (nI si), .ref m13, .ref m14])), (m2, .inl (eI g, 49, .inl (fun j => nI (S j)))), (m4, .inl (eI g, 41, .inl O)), (m5, .inl (eI g, 9, .inl (fun j => nI ((updN y k 0) j)))), (m6, .inl (eI g, 9, .inl (fun j => nI (z j))))] H := hP
    have hD : va_D A [(m0, .inr (5, [.ref m1, .ref m2, .ref m3, .int (nI kp), .ref m4, .ref m5, .ref m6, .ref m7, .ref m8, .int (nI rn), .ref m9, .int (nI tn), .int (nI ia), .int (nI wl), .ref m10, .ref m11, .ref m12, .int (nI si), .ref m13, .ref m14])), (m2, .inl (eI g, 49, .inl (fun j => nI (S j)))), (m4, .inl (eI g, 41, .inl O)), (m5, .inl (eI g, 9, .inl (fun j => nI ((updN y k 0) j)))), (m6, .inl (eI g, 9, .inl (fun j => nI (z j))))] := hD
    refine lv_aload_n hx hb dX5_part_15 rfl (lv_at hl 0 rfl) ?_
    refine xget F hP inX5_part_X5 0 rfl rfl 6 (by decide) lkX5_part_2 rfl dX5_part_16 ?_
    refine lv_iload_n hx hb dX5_part_19 rfl (lv_at hl 3 rfl) ?_
    refine lv_iconst (v := (nI 0)) hx hb dX5_part_20 (by decide) ?_
    refine xast F hP hD hS 4 (f' := fun j => nI ((updN z k 0) j)) rfl (by omega) (by omega) (upd_nI z k 0) dX5_part_21 (fun H locs hP hD hS => ?_)
    have hP : va_P (eD g) vwCl [(m0, .inr (5, [.ref m1, .ref m2, .ref m3, .int (nI kp), .ref m4, .ref m5, .ref m6, .ref m7, .ref m8, .int (nI rn), .ref m9, .int (nI tn), .int (nI ia), .int (nI wl), .ref m10, .ref m11, .ref m12, .int (nI si), .ref m13, .ref m14])), (m2, .inl (eI g, 49, .inl (fun j => nI (S j)))), (m4, .inl (eI g, 41, .inl O)), (m5, .inl (eI g, 9, .inl (fun j => nI ((updN y k 0) j)))), (m6, .inl (eI g, 9, .inl (fun j => nI ((updN z k 0) j))))] H := hP
    have hD : va_D A [(m0, .inr (5, [.ref m1, .ref m2, .ref m3, .int (nI kp), .ref m4, .ref m5, .ref m6, .ref m7, .ref m8, .int (nI rn), .ref m9, .int (nI tn), .int (nI ia), .int (nI wl), .ref m10, .ref m11, .ref m12, .int (nI si), .ref m13, .ref m14])), (m2, .inl (eI g, 49, .inl (fun j => nI (S j)))), (m4, .inl (eI g, 41, .inl O)), (m5, .inl (eI g, 9, .inl (fun j => nI ((updN y k 0) j)))), (m6, .inl (eI g, 9, .inl (fun j => nI ((updN z k 0) j))))] := hD
    refine lv_iinc (v := (nI (k + 1))) (lv' := [(3, .int (nI (k + 1))), (0, .ref m0), (1, .ref m2), (2, .int (nI v))]) hx hb dX5_part_22 hl (k := 3) rfl (iincP k 1) (by decide) rfl (fun ls hl => ?_)
    refine lv_goto (tgt := 2) hx hb dX5_part_25 (by decide) ?_
    exact ih2 (k + 1, (updN y k 0), (updN z k 0)) (show (∀ j, j < (k + 1) → (updN y k 0) j = 0) ∧ (∀ j, j < (k + 1) → (updN z k 0) j = 0) ∧ (k + 1) ≤ 9 from (⟨z_step hy, z_step hz, by omega⟩)) (show 9 - (k + 1) < 9 - k from (by omega)) _ _ _ hP hD hS (lv_sub hl [1, 2, 3, 0] rfl)

theorem inX5_tries_X5 : ∀ w ∈ u_ws RX5 TX5 20, w ∈ wsX5_tries := fun _ h => (List.mem_cons_of_mem _ (List.mem_append_right _ h))
theorem lkX5_tries_1 : Cond.fieldLink RX5 28 "StripInFiveStepsModel" "many" "[I" ∈ wsX5_tries := List.mem_of_getElem? (i := 1) rfl
theorem lkX5_tries_2 : Cond.fieldLink RX5 25 "StripInFiveStepsModel" "of" "[I" ∈ wsX5_tries := List.mem_of_getElem? (i := 2) rfl
theorem kX5_tries : Cal yX5_tries wsX5_tries cX5_tries 5 (some .boolean) 3 := ⟨⟨_, rfl⟩, by decide +kernel⟩
set_option maxHeartbeats 4000000 in
set_option maxRecDepth 100000 in
theorem nc_X5_tries (l : Launch) (g : EE) (m0 : Nat) (m1 : Nat) (m2 : Nat) (m3 : Nat) (m4 : Nat) (m5 : Nat) (m6 : Nat) (m7 : Nat) (m8 : Nat) (m9 : Nat) (m10 : Nat) (m11 : Nat) (m12 : Nat) (m13 : Nat) (m14 : Nat) (kp : Nat) (rn : Nat) (tn : Nat) (ia : Nat) (wl : Nat) (si : Nat) (S : Nat → Nat) (O : Nat → Int32) (Y : Nat → Nat) (Z : Nat → Nat) (v : Nat) (k : Nat) (hO : okS S) (hv : v ≤ 40) (hk : k < 9) : CI l yX5_tries wsX5_tries ({ frames := 5, cells := 0, slots := 0, locals := 113 }) g [.ref m0, .ref m2, .int (nI v), .int (nI k)] [(m0, .inr (5, [.ref m1, .ref m2, .ref m3, .int (nI kp), .ref m4, .ref m5, .ref m6, .ref m7, .ref m8, .int (nI rn), .ref m9, .int (nI tn), .int (nI ia), .int (nI wl), .ref m10, .ref m11, .ref m12, .int (nI si), .ref m13, .ref m14])), (m2, .inl (eI g, 49, .inl (fun j => nI (S j)))), (m4, .inl (eI g, 41, .inl O)), (m5, .inl (eI g, 9, .inl (fun j => nI (Y j)))), (m6, .inl (eI g, 9, .inl (fun j => nI (Z j))))] (fun (rz : Int32) (wz : va_W) => ∃ O9 : Nat → Int32, ∃ Y9 : Nat → Nat, ∃ Z9 : Nat → Nat, rz = (nI (if cnS (prt (tlS S) (lpB S) v k) ≠ 0 then 1 else 0)) ∧ wz = [(m0, .inr (5, [.ref m1, .ref m2, .ref m3, .int (nI kp), .ref m4, .ref m5, .ref m6, .ref m7, .ref m8, .int (nI rn), .ref m9, .int (nI tn), .int (nI ia), .int (nI wl), .ref m10, .ref m11, .ref m12, .int (nI si), .ref m13, .ref m14])), (m2, .inl (eI g, 49, .inl (fun j => nI ((if cnS (prt (tlS S) (lpB S) v k) ≠ 0 then cutN S (prt (tlS S) (lpB S) v k) 40 else S) j)))), (m4, .inl (eI g, 41, .inl O9)), (m5, .inl (eI g, 9, .inl (fun j => nI (Y9 j)))), (m6, .inl (eI g, 9, .inl (fun j => nI (Z9 j))))]) 0 0 := by
  refine ctI (cc := cX5_tries) (maxL := 5) (ret := (some .boolean)) (by decide) rfl (Nat.le_of_ble_eq_true rfl) ?_
  intro p_ e_ s_ m_ bl_ mt_ cd_ A ls F hnm hP hD hS hl
  obtain ⟨hx, hb, hml, hown, hts, hK, hX, hA, hrt_, hlocks⟩ := id F
  have hl : lv_has ls 5 [(0, .ref m0), (1, .ref m2), (2, .int (nI v)), (3, .int (nI k))] := hl
  refine lv_aload_n hx hb dX5_tries_0 rfl (lv_at hl 0 rfl) ?_
  refine lv_aload_n hx hb dX5_tries_1 rfl (lv_at hl 1 rfl) ?_
  refine lv_iload_n hx hb dX5_tries_2 rfl (lv_at hl 2 rfl) ?_
  refine cVV (As := [.ref m2, .int (nI v)]) (rest := []) F (nc_X5_part l g m0 m1 m2 m3 m4 m5 m6 m7 m8 m9 m10 m11 m12 m13 m14 kp rn tn ia wl si S O Y Z v (hO) (hv)) kX5_part rfl gX5_tries_X5_part rfl rfl ⟨Nat.le_of_ble_eq_true rfl, Nat.le_of_ble_eq_true rfl⟩ hP hD hS [0, 1, 2, 3, 4] [] rfl rfl 0 rfl rfl hl.1 rfl rfl (Nat.le_of_ble_eq_true rfl) dX5_tries_3 ⟨Nat.le_of_ble_eq_true rfl, Nat.le_of_ble_eq_true rfl⟩ (fun w1 H locs hpo hP hD hS => ?_)
  subst hpo
  obtain ⟨hP, hD⟩ := nx (ws' := [(m0, .inr (5, [.ref m1, .ref m2, .ref m3, .int (nI kp), .ref m4, .ref m5, .ref m6, .ref m7, .ref m8, .int (nI rn), .ref m9, .int (nI tn), .int (nI ia), .int (nI wl), .ref m10, .ref m11, .ref m12, .int (nI si), .ref m13, .ref m14])), (m2, .inl (eI g, 49, .inl (fun j => nI (S j)))), (m4, .inl (eI g, 41, .inl (ofF O S (tlS S) v 40))), (m5, .inl (eI g, 9, .inl (fun j => nI ((myF S S v) j)))), (m6, .inl (eI g, 9, .inl (fun j => nI ((weF S S v) j))))]) hP hD [0, 1, 2, 3, 4] (ndB_ok _ rfl) rfl
  refine lv_aload_n hx hb dX5_tries_6 rfl (lv_at hl 0 rfl) ?_
  refine xget F hP inX5_tries_X5 0 rfl rfl 5 (by decide) lkX5_tries_1 rfl dX5_tries_7 ?_
  refine lv_iload_n hx hb dX5_tries_10 rfl (lv_at hl 3 rfl) ?_
  refine xald F hP 3 (v := (nI ((myF S S v) k))) rfl (by omega) (by omega) rfl dX5_tries_11 ?_
  refine zne (tgt := 17) hx hb dX5_tries_12 (by decide) (by have := cnS_le (prt (tlS S) (lpB S) v k); unfold myF; omega) (fun c12 => ?_) (fun c12 => ?_)
  · skip
    refine lv_iconst (v := (nI 1)) hx hb dX5_tries_17 (by decide) ?_
    refine lv_istore (lv' := [(4, .int (nI 1)), (0, .ref m0), (1, .ref m2), (2, .int (nI v)), (3, .int (nI k))]) hx hb dX5_tries_18 hl (by decide) rfl (fun ls hl => ?_)
    refine xlo (σ := Nat × (Nat → Nat)) 5 (fun xz_ => (fun (i : Nat) (V : Nat → Nat) => [(0, .ref m0), (1, .ref m2), (2, .int (nI v)), (3, .int (nI k)), (4, .int (nI i))]) xz_.1 xz_.2) (fun xz_ => (fun (i : Nat) (V : Nat → Nat) => [(m0, .inr (5, [.ref m1, .ref m2, .ref m3, .int (nI kp), .ref m4, .ref m5, .ref m6, .ref m7, .ref m8, .int (nI rn), .ref m9, .int (nI tn), .int (nI ia), .int (nI wl), .ref m10, .ref m11, .ref m12, .int (nI si), .ref m13, .ref m14])), (m2, .inl (eI g, 49, .inl (fun j => nI (V j)))), (m4, .inl (eI g, 41, .inl (ofF O S (tlS S) v 40))), (m5, .inl (eI g, 9, .inl (fun j => nI ((myF S S v) j)))), (m6, .inl (eI g, 9, .inl (fun j => nI ((weF S S v) j))))]) xz_.1 xz_.2) (fun xz_ => (fun (i : Nat) (V : Nat → Nat) => V = cutN S (prt (tlS S) (lpB S) v k) (i - 1) ∧ 1 ≤ i ∧ i ≤ 41) xz_.1 xz_.2) (fun xz_ => (fun (i : Nat) (V : Nat → Nat) => 41 - i) xz_.1 xz_.2) (fun xz_ hI ih20 H locs ls hP hD hS hl => ?_) (1, S) (show S = cutN S (prt (tlS S) (lpB S) v k) (1 - 1) ∧ 1 ≤ 1 ∧ 1 ≤ 41 from (⟨(cutN_0 _ _).symm, by omega, by omega⟩)) hP hD hS (lv_sub hl [1, 2, 3, 4, 0] rfl)
    obtain ⟨i, V⟩ := xz_
    have hP : va_P (eD g) vwCl [(m0, .inr (5, [.ref m1, .ref m2, .ref m3, .int (nI kp), .ref m4, .ref m5, .ref m6, .ref m7, .ref m8, .int (nI rn), .ref m9, .int (nI tn), .int (nI ia), .int (nI wl), .ref m10, .ref m11, .ref m12, .int (nI si), .ref m13, .ref m14])), (m2, .inl (eI g, 49, .inl (fun j => nI (V j)))), (m4, .inl (eI g, 41, .inl (ofF O S (tlS S) v 40))), (m5, .inl (eI g, 9, .inl (fun j => nI ((myF S S v) j)))), (m6, .inl (eI g, 9, .inl (fun j => nI ((weF S S v) j))))] H := hP
    have hD : va_D A [(m0, .inr (5, [.ref m1, .ref m2, .ref m3, .int (nI kp), .ref m4, .ref m5, .ref m6, .ref m7, .ref m8, .int (nI rn), .ref m9, .int (nI tn), .int (nI ia), .int (nI wl), .ref m10, .ref m11, .ref m12, .int (nI si), .ref m13, .ref m14])), (m2, .inl (eI g, 49, .inl (fun j => nI (V j)))), (m4, .inl (eI g, 41, .inl (ofF O S (tlS S) v 40))), (m5, .inl (eI g, 9, .inl (fun j => nI ((myF S S v) j)))), (m6, .inl (eI g, 9, .inl (fun j => nI ((weF S S v) j))))] := hD
    have hl : lv_has ls 5 [(0, .ref m0), (1, .ref m2), (2, .int (nI v)), (3, .int (nI k)), (4, .int (nI i))] := hl
    have hI20 : V = cutN S (prt (tlS S) (lpB S) v k) (i - 1) ∧ 1 ≤ i ∧ i ≤ 41 := hI
    clear hI
    obtain ⟨hV, hi1, hi2⟩ := id hI20
    refine lv_iload hx hb dX5_tries_20 (lv_at hl 4 rfl) ?_
    refine lv_bipush (v := (nI 40)) hx hb dX5_tries_22 (by decide) ?_
    refine xgt (tgt := 56) hx hb dX5_tries_24 (by decide) (by omega) (by omega) (fun c24 => ?_) (fun c24 => ?_)
    · skip
      refine lv_iconst (v := (nI 1)) hx hb dX5_tries_56 (by decide) ?_
      exact rtZ F hP hD hS dX5_tries_57 (rfl) (⟨_, _, _, by rw [if_pos (show cnS (prt (tlS S) (lpB S) v k) ≠ 0 from c12)], by rw [if_pos (show cnS (prt (tlS S) (lpB S) v k) ≠ 0 from c12), hV, show i - 1 = 40 by omega]⟩)
    · skip
      refine lv_aload_n hx hb dX5_tries_27 rfl (lv_at hl 1 rfl) ?_
      refine lv_iload hx hb dX5_tries_28 (lv_at hl 4 rfl) ?_
      refine lv_aload_n hx hb dX5_tries_30 rfl (lv_at hl 0 rfl) ?_
      refine xget F hP inX5_tries_X5 0 rfl rfl 4 (by decide) lkX5_tries_2 rfl dX5_tries_31 ?_
      refine lv_iload hx hb dX5_tries_34 (lv_at hl 4 rfl) ?_
      refine xald F hP 2 (v := ((ofF O S (tlS S) v 40) i)) rfl (by omega) (by omega) rfl dX5_tries_36 ?_
      refine lv_iload_n hx hb dX5_tries_37 rfl (lv_at hl 3 rfl) ?_
      refine yne (tgt := 48) hx hb dX5_tries_38 (by decide) (by omega) (fun c38 => ?_) (fun c38 => ?_)
      · skip
        refine lv_iconst (v := (nI 0)) hx hb dX5_tries_48 (by decide) ?_
        refine xast F hP hD hS 1 (f' := fun j => nI ((updN V i 0) j)) rfl (by omega) (by omega) (upd_nI V i 0) dX5_tries_49 (fun H locs hP hD hS => ?_)
        have hP : va_P (eD g) vwCl [(m0, .inr (5, [.ref m1, .ref m2, .ref m3, .int (nI kp), .ref m4, .ref m5, .ref m6, .ref m7, .ref m8, .int (nI rn), .ref m9, .int (nI tn), .int (nI ia), .int (nI wl), .ref m10, .ref m11, .ref m12, .int (nI si), .ref m13, .ref m14])), (m2, .inl (eI g, 49, .inl (fun j => nI ((updN V i 0) j)))), (m4, .inl (eI g, 41, .inl (ofF O S (tlS S) v 40))), (m5, .inl (eI g, 9, .inl (fun j => nI ((myF S S v) j)))), (m6, .inl (eI g, 9, .inl (fun j => nI ((weF S S v) j))))] H := hP
        have hD : va_D A [(m0, .inr (5, [.ref m1, .ref m2, .ref m3, .int (nI kp), .ref m4, .ref m5, .ref m6, .ref m7, .ref m8, .int (nI rn), .ref m9, .int (nI tn), .int (nI ia), .int (nI wl), .ref m10, .ref m11, .ref m12, .int (nI si), .ref m13, .ref m14])), (m2, .inl (eI g, 49, .inl (fun j => nI ((updN V i 0) j)))), (m4, .inl (eI g, 41, .inl (ofF O S (tlS S) v 40))), (m5, .inl (eI g, 9, .inl (fun j => nI ((myF S S v) j)))), (m6, .inl (eI g, 9, .inl (fun j => nI ((weF S S v) j))))] := hD
        refine lv_iinc (v := (nI (i + 1))) (lv' := [(4, .int (nI (i + 1))), (0, .ref m0), (1, .ref m2), (2, .int (nI v)), (3, .int (nI k))]) hx hb dX5_tries_50 hl (k := 4) rfl (iincP i 1) (by decide) rfl (fun ls hl => ?_)
        refine lv_goto (tgt := 20) hx hb dX5_tries_53 (by decide) ?_
        exact ih20 (i + 1, (updN V i 0)) (show (updN V i 0) = cutN S (prt (tlS S) (lpB S) v k) ((i + 1) - 1) ∧ 1 ≤ (i + 1) ∧ (i + 1) ≤ 41 from (⟨by rw [hV]; exact cut_zero1 (by omega) (by simpa using mt (ofk hi1 (by omega) (tlS_9 hO v i)).mpr c38), by omega, by omega⟩)) (show 41 - (i + 1) < 41 - i from (by omega)) _ _ _ hP hD hS (lv_sub hl [1, 2, 3, 4, 0] rfl)
      · skip
        refine lv_aload_n hx hb dX5_tries_41 rfl (lv_at hl 1 rfl) ?_
        refine lv_iload hx hb dX5_tries_42 (lv_at hl 4 rfl) ?_
        refine xald F hP 1 (v := (nI (V i))) rfl (by omega) (by omega) rfl dX5_tries_44 ?_
        refine lv_goto (tgt := 49) hx hb dX5_tries_45 (by decide) ?_
        refine xast F hP hD hS 1 (f' := fun j => nI ((updN V i (V i)) j)) rfl (by omega) (by omega) (upd_nI V i (V i)) dX5_tries_49 (fun H locs hP hD hS => ?_)
        have hP : va_P (eD g) vwCl [(m0, .inr (5, [.ref m1, .ref m2, .ref m3, .int (nI kp), .ref m4, .ref m5, .ref m6, .ref m7, .ref m8, .int (nI rn), .ref m9, .int (nI tn), .int (nI ia), .int (nI wl), .ref m10, .ref m11, .ref m12, .int (nI si), .ref m13, .ref m14])), (m2, .inl (eI g, 49, .inl (fun j => nI ((updN V i (V i)) j)))), (m4, .inl (eI g, 41, .inl (ofF O S (tlS S) v 40))), (m5, .inl (eI g, 9, .inl (fun j => nI ((myF S S v) j)))), (m6, .inl (eI g, 9, .inl (fun j => nI ((weF S S v) j))))] H := hP
        have hD : va_D A [(m0, .inr (5, [.ref m1, .ref m2, .ref m3, .int (nI kp), .ref m4, .ref m5, .ref m6, .ref m7, .ref m8, .int (nI rn), .ref m9, .int (nI tn), .int (nI ia), .int (nI wl), .ref m10, .ref m11, .ref m12, .int (nI si), .ref m13, .ref m14])), (m2, .inl (eI g, 49, .inl (fun j => nI ((updN V i (V i)) j)))), (m4, .inl (eI g, 41, .inl (ofF O S (tlS S) v 40))), (m5, .inl (eI g, 9, .inl (fun j => nI ((myF S S v) j)))), (m6, .inl (eI g, 9, .inl (fun j => nI ((weF S S v) j))))] := hD
        refine lv_iinc (v := (nI (i + 1))) (lv' := [(4, .int (nI (i + 1))), (0, .ref m0), (1, .ref m2), (2, .int (nI v)), (3, .int (nI k))]) hx hb dX5_tries_50 hl (k := 4) rfl (iincP i 1) (by decide) rfl (fun ls hl => ?_)
        refine lv_goto (tgt := 20) hx hb dX5_tries_53 (by decide) ?_
        exact ih20 (i + 1, (updN V i (V i))) (show (updN V i (V i)) = cutN S (prt (tlS S) (lpB S) v k) ((i + 1) - 1) ∧ 1 ≤ (i + 1) ∧ (i + 1) ≤ 41 from (⟨by rw [hV]; exact cut_on (by omega) ((ofk hi1 (by omega) (tlS_9 hO v i)).mp c38), by omega, by omega⟩)) (show 41 - (i + 1) < 41 - i from (by omega)) _ _ _ hP hD hS (lv_sub hl [1, 2, 3, 4, 0] rfl)
  · skip
    refine lv_iconst (v := (nI 0)) hx hb dX5_tries_15 (by decide) ?_
    exact rtZ F hP hD hS dX5_tries_16 (rfl) (⟨_, _, _, by rw [if_neg (fun z => z c12)], by rw [if_neg (fun z => z c12)]⟩)

theorem inX5_partsOf_X5 : ∀ w ∈ u_ws RX5 TX5 20, w ∈ wsX5_partsOf := fun _ h => (List.mem_cons_of_mem _ (List.mem_append_right _ h))
theorem lkX5_partsOf_1 : Cond.fieldLink RX5 28 "StripInFiveStepsModel" "many" "[I" ∈ wsX5_partsOf := List.mem_of_getElem? (i := 1) rfl
theorem kX5_partsOf : Cal yX5_partsOf wsX5_partsOf cX5_partsOf 5 (some .int) 2 := ⟨⟨_, rfl⟩, by decide +kernel⟩
set_option maxHeartbeats 4000000 in
set_option maxRecDepth 100000 in
theorem nc_X5_partsOf (l : Launch) (g : EE) (m0 : Nat) (m1 : Nat) (m2 : Nat) (m3 : Nat) (m4 : Nat) (m5 : Nat) (m6 : Nat) (m7 : Nat) (m8 : Nat) (m9 : Nat) (m10 : Nat) (m11 : Nat) (m12 : Nat) (m13 : Nat) (m14 : Nat) (kp : Nat) (rn : Nat) (tn : Nat) (ia : Nat) (wl : Nat) (si : Nat) (S : Nat → Nat) (O : Nat → Int32) (Y : Nat → Nat) (Z : Nat → Nat) (v : Nat) (hO : okS S) (hv : v ≤ 40) : CI l yX5_partsOf wsX5_partsOf ({ frames := 5, cells := 0, slots := 0, locals := 113 }) g [.ref m0, .ref m2, .int (nI v)] [(m0, .inr (5, [.ref m1, .ref m2, .ref m3, .int (nI kp), .ref m4, .ref m5, .ref m6, .ref m7, .ref m8, .int (nI rn), .ref m9, .int (nI tn), .int (nI ia), .int (nI wl), .ref m10, .ref m11, .ref m12, .int (nI si), .ref m13, .ref m14])), (m2, .inl (eI g, 49, .inl (fun j => nI (S j)))), (m4, .inl (eI g, 41, .inl O)), (m5, .inl (eI g, 9, .inl (fun j => nI (Y j)))), (m6, .inl (eI g, 9, .inl (fun j => nI (Z j))))] (fun (rz : Int32) (wz : va_W) => ∃ O9 : Nat → Int32, ∃ Y9 : Nat → Nat, ∃ Z9 : Nat → Nat, rz = (nI (paS (tlS S) (lpB S) v)) ∧ wz = [(m0, .inr (5, [.ref m1, .ref m2, .ref m3, .int (nI kp), .ref m4, .ref m5, .ref m6, .ref m7, .ref m8, .int (nI rn), .ref m9, .int (nI tn), .int (nI ia), .int (nI wl), .ref m10, .ref m11, .ref m12, .int (nI si), .ref m13, .ref m14])), (m2, .inl (eI g, 49, .inl (fun j => nI (S j)))), (m4, .inl (eI g, 41, .inl O9)), (m5, .inl (eI g, 9, .inl (fun j => nI (Y9 j)))), (m6, .inl (eI g, 9, .inl (fun j => nI (Z9 j))))]) 0 0 := by
  refine ctI (cc := cX5_partsOf) (maxL := 5) (ret := (some .int)) (by decide) rfl (Nat.le_of_ble_eq_true rfl) ?_
  intro p_ e_ s_ m_ bl_ mt_ cd_ A ls F hnm hP hD hS hl
  obtain ⟨hx, hb, hml, hown, hts, hK, hX, hA, hrt_, hlocks⟩ := id F
  have hl : lv_has ls 5 [(0, .ref m0), (1, .ref m2), (2, .int (nI v))] := hl
  have hmb : ∀ j, myF S S v j ≤ 40 := fun j => cnS_le _
  refine lv_aload_n hx hb dX5_partsOf_0 rfl (lv_at hl 0 rfl) ?_
  refine lv_aload_n hx hb dX5_partsOf_1 rfl (lv_at hl 1 rfl) ?_
  refine lv_iload_n hx hb dX5_partsOf_2 rfl (lv_at hl 2 rfl) ?_
  refine cVV (As := [.ref m2, .int (nI v)]) (rest := []) F (nc_X5_part l g m0 m1 m2 m3 m4 m5 m6 m7 m8 m9 m10 m11 m12 m13 m14 kp rn tn ia wl si S O Y Z v (hO) (hv)) kX5_part rfl gX5_partsOf_X5_part rfl rfl ⟨Nat.le_of_ble_eq_true rfl, Nat.le_of_ble_eq_true rfl⟩ hP hD hS [0, 1, 2, 3, 4] [] rfl rfl 0 rfl rfl hl.1 rfl rfl (Nat.le_of_ble_eq_true rfl) dX5_partsOf_3 ⟨Nat.le_of_ble_eq_true rfl, Nat.le_of_ble_eq_true rfl⟩ (fun w1 H locs hpo hP hD hS => ?_)
  subst hpo
  obtain ⟨hP, hD⟩ := nx (ws' := [(m0, .inr (5, [.ref m1, .ref m2, .ref m3, .int (nI kp), .ref m4, .ref m5, .ref m6, .ref m7, .ref m8, .int (nI rn), .ref m9, .int (nI tn), .int (nI ia), .int (nI wl), .ref m10, .ref m11, .ref m12, .int (nI si), .ref m13, .ref m14])), (m2, .inl (eI g, 49, .inl (fun j => nI (S j)))), (m4, .inl (eI g, 41, .inl (ofF O S (tlS S) v 40))), (m5, .inl (eI g, 9, .inl (fun j => nI ((myF S S v) j)))), (m6, .inl (eI g, 9, .inl (fun j => nI ((weF S S v) j))))]) hP hD [0, 1, 2, 3, 4] (ndB_ok _ rfl) rfl
  refine lv_iconst (v := (nI 0)) hx hb dX5_partsOf_6 (by decide) ?_
  refine lv_istore_n (lv' := [(3, .int (nI 0)), (0, .ref m0), (1, .ref m2), (2, .int (nI v))]) hx hb dX5_partsOf_7 rfl hl (by decide) rfl (fun ls hl => ?_)
  refine lv_iconst (v := (nI 0)) hx hb dX5_partsOf_8 (by decide) ?_
  refine lv_istore (lv' := [(4, .int (nI 0)), (3, .int (nI 0)), (0, .ref m0), (1, .ref m2), (2, .int (nI v))]) hx hb dX5_partsOf_9 hl (by decide) rfl (fun ls hl => ?_)
  refine xlo (σ := Nat × Nat) 5 (fun xz_ => (fun (k : Nat) (a : Nat) => [(0, .ref m0), (1, .ref m2), (2, .int (nI v)), (3, .int (nI a)), (4, .int (nI k))]) xz_.1 xz_.2) (fun xz_ => (fun (k : Nat) (a : Nat) => [(m0, .inr (5, [.ref m1, .ref m2, .ref m3, .int (nI kp), .ref m4, .ref m5, .ref m6, .ref m7, .ref m8, .int (nI rn), .ref m9, .int (nI tn), .int (nI ia), .int (nI wl), .ref m10, .ref m11, .ref m12, .int (nI si), .ref m13, .ref m14])), (m2, .inl (eI g, 49, .inl (fun j => nI (S j)))), (m4, .inl (eI g, 41, .inl (ofF O S (tlS S) v 40))), (m5, .inl (eI g, 9, .inl (fun j => nI ((myF S S v) j)))), (m6, .inl (eI g, 9, .inl (fun j => nI ((weF S S v) j))))]) xz_.1 xz_.2) (fun xz_ => (fun (k : Nat) (a : Nat) => a = sz (fun z_ => if cnS (prt (tlS S) (lpB S) v z_) = 0 then 0 else 1) k ∧ k ≤ 9) xz_.1 xz_.2) (fun xz_ => (fun (k : Nat) (a : Nat) => 9 - k) xz_.1 xz_.2) (fun xz_ hI ih11 H locs ls hP hD hS hl => ?_) (0, 0) (show 0 = sz (fun z_ => if cnS (prt (tlS S) (lpB S) v z_) = 0 then 0 else 1) 0 ∧ 0 ≤ 9 from (⟨rfl, by omega⟩)) hP hD hS (lv_sub hl [2, 3, 4, 1, 0] rfl)
  obtain ⟨k, a⟩ := xz_
  have hP : va_P (eD g) vwCl [(m0, .inr (5, [.ref m1, .ref m2, .ref m3, .int (nI kp), .ref m4, .ref m5, .ref m6, .ref m7, .ref m8, .int (nI rn), .ref m9, .int (nI tn), .int (nI ia), .int (nI wl), .ref m10, .ref m11, .ref m12, .int (nI si), .ref m13, .ref m14])), (m2, .inl (eI g, 49, .inl (fun j => nI (S j)))), (m4, .inl (eI g, 41, .inl (ofF O S (tlS S) v 40))), (m5, .inl (eI g, 9, .inl (fun j => nI ((myF S S v) j)))), (m6, .inl (eI g, 9, .inl (fun j => nI ((weF S S v) j))))] H := hP
  have hD : va_D A [(m0, .inr (5, [.ref m1, .ref m2, .ref m3, .int (nI kp), .ref m4, .ref m5, .ref m6, .ref m7, .ref m8, .int (nI rn), .ref m9, .int (nI tn), .int (nI ia), .int (nI wl), .ref m10, .ref m11, .ref m12, .int (nI si), .ref m13, .ref m14])), (m2, .inl (eI g, 49, .inl (fun j => nI (S j)))), (m4, .inl (eI g, 41, .inl (ofF O S (tlS S) v 40))), (m5, .inl (eI g, 9, .inl (fun j => nI ((myF S S v) j)))), (m6, .inl (eI g, 9, .inl (fun j => nI ((weF S S v) j))))] := hD
  have hl : lv_has ls 5 [(0, .ref m0), (1, .ref m2), (2, .int (nI v)), (3, .int (nI a)), (4, .int (nI k))] := hl
  have hI11 : a = sz (fun z_ => if cnS (prt (tlS S) (lpB S) v z_) = 0 then 0 else 1) k ∧ k ≤ 9 := hI
  clear hI
  obtain ⟨ha, hk⟩ := id hI11
  refine lv_iload hx hb dX5_partsOf_11 (lv_at hl 4 rfl) ?_
  refine lv_bipush (v := (nI 8)) hx hb dX5_partsOf_13 (by decide) ?_
  refine xgt (tgt := 42) hx hb dX5_partsOf_15 (by decide) (by omega) (by omega) (fun c15 => ?_) (fun c15 => ?_)
  · skip
    refine lv_iload_n hx hb dX5_partsOf_42 rfl (lv_at hl 3 rfl) ?_
    exact rtI F hP hD hS dX5_partsOf_43 (⟨_, _, _, by rw [ha, show k = 9 by omega]; rfl, rfl⟩)
  · skip
    refine lv_iload_n hx hb dX5_partsOf_18 rfl (lv_at hl 3 rfl) ?_
    refine lv_aload_n hx hb dX5_partsOf_19 rfl (lv_at hl 0 rfl) ?_
    refine xget F hP inX5_partsOf_X5 0 rfl rfl 5 (by decide) lkX5_partsOf_1 rfl dX5_partsOf_20 ?_
    refine lv_iload hx hb dX5_partsOf_23 (lv_at hl 4 rfl) ?_
    refine xald F hP 3 (v := (nI ((myF S S v) k))) rfl (by omega) (by omega) rfl dX5_partsOf_25 ?_
    have hbd2 := hmb (k)
    refine zle (tgt := 33) hx hb dX5_partsOf_26 (by decide) (by omega) (fun c26 => ?_) (fun c26 => ?_)
    · skip
      refine lv_iconst (v := (nI 0)) hx hb dX5_partsOf_33 (by decide) ?_
      refine xadd hx hb dX5_partsOf_34 ?_
      refine lv_istore_n (lv' := [(3, .int (nI (a + 0))), (0, .ref m0), (1, .ref m2), (2, .int (nI v)), (4, .int (nI k))]) hx hb dX5_partsOf_35 rfl hl (by decide) rfl (fun ls hl => ?_)
      refine lv_iinc (v := (nI (k + 1))) (lv' := [(4, .int (nI (k + 1))), (3, .int (nI (a + 0))), (0, .ref m0), (1, .ref m2), (2, .int (nI v))]) hx hb dX5_partsOf_36 hl (k := 4) rfl (iincP k 1) (by decide) rfl (fun ls hl => ?_)
      refine lv_goto (tgt := 11) hx hb dX5_partsOf_39 (by decide) ?_
      exact ih11 (k + 1, a + 0) (show (a + 0) = sz (fun z_ => if cnS (prt (tlS S) (lpB S) v z_) = 0 then 0 else 1) (k + 1) ∧ (k + 1) ≤ 9 from (⟨by rw [ha]; exact (pa_skip c26).symm, by omega⟩)) (show 9 - (k + 1) < 9 - k from (by omega)) _ _ _ hP hD hS (lv_sub hl [2, 3, 4, 1, 0] rfl)
    · skip
      refine lv_iconst (v := (nI 1)) hx hb dX5_partsOf_29 (by decide) ?_
      refine lv_goto (tgt := 34) hx hb dX5_partsOf_30 (by decide) ?_
      refine xadd hx hb dX5_partsOf_34 ?_
      refine lv_istore_n (lv' := [(3, .int (nI (a + 1))), (0, .ref m0), (1, .ref m2), (2, .int (nI v)), (4, .int (nI k))]) hx hb dX5_partsOf_35 rfl hl (by decide) rfl (fun ls hl => ?_)
      refine lv_iinc (v := (nI (k + 1))) (lv' := [(4, .int (nI (k + 1))), (3, .int (nI (a + 1))), (0, .ref m0), (1, .ref m2), (2, .int (nI v))]) hx hb dX5_partsOf_36 hl (k := 4) rfl (iincP k 1) (by decide) rfl (fun ls hl => ?_)
      refine lv_goto (tgt := 11) hx hb dX5_partsOf_39 (by decide) ?_
      exact ih11 (k + 1, a + 1) (show (a + 1) = sz (fun z_ => if cnS (prt (tlS S) (lpB S) v z_) = 0 then 0 else 1) (k + 1) ∧ (k + 1) ≤ 9 from (⟨by rw [ha]; exact (pa_step c26).symm, by omega⟩)) (show 9 - (k + 1) < 9 - k from (by omega)) _ _ _ hP hD hS (lv_sub hl [2, 3, 4, 1, 0] rfl)

theorem inX5_worstOf_X5 : ∀ w ∈ u_ws RX5 TX5 20, w ∈ wsX5_worstOf := fun _ h => (List.mem_cons_of_mem _ (List.mem_append_right _ h))
theorem lkX5_worstOf_1 : Cond.fieldLink RX5 28 "StripInFiveStepsModel" "many" "[I" ∈ wsX5_worstOf := List.mem_of_getElem? (i := 1) rfl
theorem lkX5_worstOf_3 : Cond.static Lib.Math.max.name ∈ wsX5_worstOf := List.mem_of_getElem? (i := 3) rfl
theorem lkX5_worstOf_4 : Cond.initialized "java/lang/Math" ∈ wsX5_worstOf := List.mem_of_getElem? (i := 4) rfl
theorem lkX5_worstOf_5 : Cond.code Lib.Math.max.name Lib.Math.max.code 2 (some .int) ∈ wsX5_worstOf := List.mem_of_getElem? (i := 5) rfl
theorem lkX5_worstOf_2 : Cond.methodLink RX5 90 Lib.Math.max.name ∈ wsX5_worstOf := List.mem_of_getElem? (i := 2) rfl
theorem kX5_worstOf : Cal yX5_worstOf wsX5_worstOf cX5_worstOf 5 (some .int) 2 := ⟨⟨_, rfl⟩, by decide +kernel⟩
set_option maxHeartbeats 4000000 in
set_option maxRecDepth 100000 in
theorem nc_X5_worstOf (l : Launch) (g : EE) (m0 : Nat) (m1 : Nat) (m2 : Nat) (m3 : Nat) (m4 : Nat) (m5 : Nat) (m6 : Nat) (m7 : Nat) (m8 : Nat) (m9 : Nat) (m10 : Nat) (m11 : Nat) (m12 : Nat) (m13 : Nat) (m14 : Nat) (kp : Nat) (rn : Nat) (tn : Nat) (ia : Nat) (wl : Nat) (si : Nat) (S : Nat → Nat) (O : Nat → Int32) (Y : Nat → Nat) (Z : Nat → Nat) (v : Nat) (hO : okS S) (hv : v ≤ 40) : CI l yX5_worstOf wsX5_worstOf ({ frames := 5, cells := 0, slots := 0, locals := 113 }) g [.ref m0, .ref m2, .int (nI v)] [(m0, .inr (5, [.ref m1, .ref m2, .ref m3, .int (nI kp), .ref m4, .ref m5, .ref m6, .ref m7, .ref m8, .int (nI rn), .ref m9, .int (nI tn), .int (nI ia), .int (nI wl), .ref m10, .ref m11, .ref m12, .int (nI si), .ref m13, .ref m14])), (m2, .inl (eI g, 49, .inl (fun j => nI (S j)))), (m4, .inl (eI g, 41, .inl O)), (m5, .inl (eI g, 9, .inl (fun j => nI (Y j)))), (m6, .inl (eI g, 9, .inl (fun j => nI (Z j))))] (fun (rz : Int32) (wz : va_W) => ∃ O9 : Nat → Int32, ∃ Y9 : Nat → Nat, ∃ Z9 : Nat → Nat, rz = (nI (woS (tlS S) (lpB S) v)) ∧ wz = [(m0, .inr (5, [.ref m1, .ref m2, .ref m3, .int (nI kp), .ref m4, .ref m5, .ref m6, .ref m7, .ref m8, .int (nI rn), .ref m9, .int (nI tn), .int (nI ia), .int (nI wl), .ref m10, .ref m11, .ref m12, .int (nI si), .ref m13, .ref m14])), (m2, .inl (eI g, 49, .inl (fun j => nI (S j)))), (m4, .inl (eI g, 41, .inl O9)), (m5, .inl (eI g, 9, .inl (fun j => nI (Y9 j)))), (m6, .inl (eI g, 9, .inl (fun j => nI (Z9 j))))]) 0 0 := by
  refine ctI (cc := cX5_worstOf) (maxL := 5) (ret := (some .int)) (by decide) rfl (Nat.le_of_ble_eq_true rfl) ?_
  intro p_ e_ s_ m_ bl_ mt_ cd_ A ls F hnm hP hD hS hl
  obtain ⟨hx, hb, hml, hown, hts, hK, hX, hA, hrt_, hlocks⟩ := id F
  have hl : lv_has ls 5 [(0, .ref m0), (1, .ref m2), (2, .int (nI v))] := hl
  have hmb : ∀ j, myF S S v j ≤ 40 := fun j => cnS_le _
  refine lv_aload_n hx hb dX5_worstOf_0 rfl (lv_at hl 0 rfl) ?_
  refine lv_aload_n hx hb dX5_worstOf_1 rfl (lv_at hl 1 rfl) ?_
  refine lv_iload_n hx hb dX5_worstOf_2 rfl (lv_at hl 2 rfl) ?_
  refine cVV (As := [.ref m2, .int (nI v)]) (rest := []) F (nc_X5_part l g m0 m1 m2 m3 m4 m5 m6 m7 m8 m9 m10 m11 m12 m13 m14 kp rn tn ia wl si S O Y Z v (hO) (hv)) kX5_part rfl gX5_worstOf_X5_part rfl rfl ⟨Nat.le_of_ble_eq_true rfl, Nat.le_of_ble_eq_true rfl⟩ hP hD hS [0, 1, 2, 3, 4] [] rfl rfl 0 rfl rfl hl.1 rfl rfl (Nat.le_of_ble_eq_true rfl) dX5_worstOf_3 ⟨Nat.le_of_ble_eq_true rfl, Nat.le_of_ble_eq_true rfl⟩ (fun w1 H locs hpo hP hD hS => ?_)
  subst hpo
  obtain ⟨hP, hD⟩ := nx (ws' := [(m0, .inr (5, [.ref m1, .ref m2, .ref m3, .int (nI kp), .ref m4, .ref m5, .ref m6, .ref m7, .ref m8, .int (nI rn), .ref m9, .int (nI tn), .int (nI ia), .int (nI wl), .ref m10, .ref m11, .ref m12, .int (nI si), .ref m13, .ref m14])), (m2, .inl (eI g, 49, .inl (fun j => nI (S j)))), (m4, .inl (eI g, 41, .inl (ofF O S (tlS S) v 40))), (m5, .inl (eI g, 9, .inl (fun j => nI ((myF S S v) j)))), (m6, .inl (eI g, 9, .inl (fun j => nI ((weF S S v) j))))]) hP hD [0, 1, 2, 3, 4] (ndB_ok _ rfl) rfl
  refine lv_iconst (v := (nI 0)) hx hb dX5_worstOf_6 (by decide) ?_
  refine lv_istore_n (lv' := [(3, .int (nI 0)), (0, .ref m0), (1, .ref m2), (2, .int (nI v))]) hx hb dX5_worstOf_7 rfl hl (by decide) rfl (fun ls hl => ?_)
  refine lv_iconst (v := (nI 0)) hx hb dX5_worstOf_8 (by decide) ?_
  refine lv_istore (lv' := [(4, .int (nI 0)), (3, .int (nI 0)), (0, .ref m0), (1, .ref m2), (2, .int (nI v))]) hx hb dX5_worstOf_9 hl (by decide) rfl (fun ls hl => ?_)
  refine xlo (σ := Nat × Nat) 5 (fun xz_ => (fun (k : Nat) (a : Nat) => [(0, .ref m0), (1, .ref m2), (2, .int (nI v)), (3, .int (nI a)), (4, .int (nI k))]) xz_.1 xz_.2) (fun xz_ => (fun (k : Nat) (a : Nat) => [(m0, .inr (5, [.ref m1, .ref m2, .ref m3, .int (nI kp), .ref m4, .ref m5, .ref m6, .ref m7, .ref m8, .int (nI rn), .ref m9, .int (nI tn), .int (nI ia), .int (nI wl), .ref m10, .ref m11, .ref m12, .int (nI si), .ref m13, .ref m14])), (m2, .inl (eI g, 49, .inl (fun j => nI (S j)))), (m4, .inl (eI g, 41, .inl (ofF O S (tlS S) v 40))), (m5, .inl (eI g, 9, .inl (fun j => nI ((myF S S v) j)))), (m6, .inl (eI g, 9, .inl (fun j => nI ((weF S S v) j))))]) xz_.1 xz_.2) (fun xz_ => (fun (k : Nat) (a : Nat) => a = mz (fun z_ => cnS (prt (tlS S) (lpB S) v z_)) k ∧ k ≤ 9) xz_.1 xz_.2) (fun xz_ => (fun (k : Nat) (a : Nat) => 9 - k) xz_.1 xz_.2) (fun xz_ hI ih11 H locs ls hP hD hS hl => ?_) (0, 0) (show 0 = mz (fun z_ => cnS (prt (tlS S) (lpB S) v z_)) 0 ∧ 0 ≤ 9 from (⟨rfl, by omega⟩)) hP hD hS (lv_sub hl [2, 3, 4, 1, 0] rfl)
  obtain ⟨k, a⟩ := xz_
  have hP : va_P (eD g) vwCl [(m0, .inr (5, [.ref m1, .ref m2, .ref m3, .int (nI kp), .ref m4, .ref m5, .ref m6, .ref m7, .ref m8, .int (nI rn), .ref m9, .int (nI tn), .int (nI ia), .int (nI wl), .ref m10, .ref m11, .ref m12, .int (nI si), .ref m13, .ref m14])), (m2, .inl (eI g, 49, .inl (fun j => nI (S j)))), (m4, .inl (eI g, 41, .inl (ofF O S (tlS S) v 40))), (m5, .inl (eI g, 9, .inl (fun j => nI ((myF S S v) j)))), (m6, .inl (eI g, 9, .inl (fun j => nI ((weF S S v) j))))] H := hP
  have hD : va_D A [(m0, .inr (5, [.ref m1, .ref m2, .ref m3, .int (nI kp), .ref m4, .ref m5, .ref m6, .ref m7, .ref m8, .int (nI rn), .ref m9, .int (nI tn), .int (nI ia), .int (nI wl), .ref m10, .ref m11, .ref m12, .int (nI si), .ref m13, .ref m14])), (m2, .inl (eI g, 49, .inl (fun j => nI (S j)))), (m4, .inl (eI g, 41, .inl (ofF O S (tlS S) v 40))), (m5, .inl (eI g, 9, .inl (fun j => nI ((myF S S v) j)))), (m6, .inl (eI g, 9, .inl (fun j => nI ((weF S S v) j))))] := hD
  have hl : lv_has ls 5 [(0, .ref m0), (1, .ref m2), (2, .int (nI v)), (3, .int (nI a)), (4, .int (nI k))] := hl
  have hI11 : a = mz (fun z_ => cnS (prt (tlS S) (lpB S) v z_)) k ∧ k ≤ 9 := hI
  clear hI
  obtain ⟨ha, hk⟩ := id hI11
  have hab : a ≤ 40 := by rw [ha]; exact mz_le k (fun _ _ => cnS_le _)
  refine lv_iload hx hb dX5_worstOf_11 (lv_at hl 4 rfl) ?_
  refine lv_bipush (v := (nI 8)) hx hb dX5_worstOf_13 (by decide) ?_
  refine xgt (tgt := 36) hx hb dX5_worstOf_15 (by decide) (by omega) (by omega) (fun c15 => ?_) (fun c15 => ?_)
  · skip
    refine lv_iload_n hx hb dX5_worstOf_36 rfl (lv_at hl 3 rfl) ?_
    exact rtI F hP hD hS dX5_worstOf_37 (⟨_, _, _, by rw [ha, show k = 9 by omega]; rfl, rfl⟩)
  · skip
    refine lv_iload_n hx hb dX5_worstOf_18 rfl (lv_at hl 3 rfl) ?_
    refine lv_aload_n hx hb dX5_worstOf_19 rfl (lv_at hl 0 rfl) ?_
    refine xget F hP inX5_worstOf_X5 0 rfl rfl 5 (by decide) lkX5_worstOf_1 rfl dX5_worstOf_20 ?_
    refine lv_iload hx hb dX5_worstOf_23 (lv_at hl 4 rfl) ?_
    refine xald F hP 3 (v := (nI ((myF S S v) k))) rfl (by omega) (by omega) rfl dX5_worstOf_25 ?_
    have hbd2 := hmb (k)
    refine xmax F hl.1 lkX5_worstOf_2 lkX5_worstOf_3 lkX5_worstOf_4 lkX5_worstOf_5 (Nat.le_of_ble_eq_true rfl) (Nat.le_of_ble_eq_true rfl) ⟨Nat.le_of_ble_eq_true rfl, Nat.le_of_ble_eq_true rfl⟩ (by omega) (by omega) dX5_worstOf_26 ?_
    refine lv_istore_n (lv' := [(3, .int (nI (max a ((myF S S v) k)))), (0, .ref m0), (1, .ref m2), (2, .int (nI v)), (4, .int (nI k))]) hx hb dX5_worstOf_29 rfl hl (by decide) rfl (fun ls hl => ?_)
    refine lv_iinc (v := (nI (k + 1))) (lv' := [(4, .int (nI (k + 1))), (3, .int (nI (max a ((myF S S v) k)))), (0, .ref m0), (1, .ref m2), (2, .int (nI v))]) hx hb dX5_worstOf_30 hl (k := 4) rfl (iincP k 1) (by decide) rfl (fun ls hl => ?_)
    refine lv_goto (tgt := 11) hx hb dX5_worstOf_33 (by decide) ?_
    exact ih11 (k + 1, max a ((myF S S v) k)) (show (max a ((myF S S v) k)) = mz (fun z_ => cnS (prt (tlS S) (lpB S) v z_)) (k + 1) ∧ (k + 1) ≤ 9 from (⟨by rw [ha]; exact wo_step.symm, by omega⟩)) (show 9 - (k + 1) < 9 - k from (by omega)) _ _ _ hP hD hS (lv_sub hl [2, 3, 4, 1, 0] rfl)

theorem inX5_meanOf_X5 : ∀ w ∈ u_ws RX5 TX5 20, w ∈ wsX5_meanOf := fun _ h => (List.mem_cons_of_mem _ (List.mem_append_right _ h))
theorem lkX5_meanOf_1 : Cond.fieldLink RX5 31 "StripInFiveStepsModel" "weigh" "[I" ∈ wsX5_meanOf := List.mem_of_getElem? (i := 1) rfl
theorem lkX5_meanOf_2 : Cond.fieldLink RX5 28 "StripInFiveStepsModel" "many" "[I" ∈ wsX5_meanOf := List.mem_of_getElem? (i := 2) rfl
theorem kX5_meanOf : Cal yX5_meanOf wsX5_meanOf cX5_meanOf 5 (some .int) 2 := ⟨⟨_, rfl⟩, by decide +kernel⟩
set_option maxHeartbeats 4000000 in
set_option maxRecDepth 100000 in
theorem nc_X5_meanOf (l : Launch) (g : EE) (m0 : Nat) (m1 : Nat) (m2 : Nat) (m3 : Nat) (m4 : Nat) (m5 : Nat) (m6 : Nat) (m7 : Nat) (m8 : Nat) (m9 : Nat) (m10 : Nat) (m11 : Nat) (m12 : Nat) (m13 : Nat) (m14 : Nat) (kp : Nat) (rn : Nat) (tn : Nat) (ia : Nat) (wl : Nat) (si : Nat) (S : Nat → Nat) (O : Nat → Int32) (Y : Nat → Nat) (Z : Nat → Nat) (v : Nat) (hO : okS S) (hv : v ≤ 40) : CI l yX5_meanOf wsX5_meanOf ({ frames := 5, cells := 0, slots := 0, locals := 113 }) g [.ref m0, .ref m2, .int (nI v)] [(m0, .inr (5, [.ref m1, .ref m2, .ref m3, .int (nI kp), .ref m4, .ref m5, .ref m6, .ref m7, .ref m8, .int (nI rn), .ref m9, .int (nI tn), .int (nI ia), .int (nI wl), .ref m10, .ref m11, .ref m12, .int (nI si), .ref m13, .ref m14])), (m2, .inl (eI g, 49, .inl (fun j => nI (S j)))), (m4, .inl (eI g, 41, .inl O)), (m5, .inl (eI g, 9, .inl (fun j => nI (Y j)))), (m6, .inl (eI g, 9, .inl (fun j => nI (Z j))))] (fun (rz : Int32) (wz : va_W) => ∃ O9 : Nat → Int32, ∃ Y9 : Nat → Nat, ∃ Z9 : Nat → Nat, rz = (nI (meS (tlS S) S (lpB S) v)) ∧ wz = [(m0, .inr (5, [.ref m1, .ref m2, .ref m3, .int (nI kp), .ref m4, .ref m5, .ref m6, .ref m7, .ref m8, .int (nI rn), .ref m9, .int (nI tn), .int (nI ia), .int (nI wl), .ref m10, .ref m11, .ref m12, .int (nI si), .ref m13, .ref m14])), (m2, .inl (eI g, 49, .inl (fun j => nI (S j)))), (m4, .inl (eI g, 41, .inl O9)), (m5, .inl (eI g, 9, .inl (fun j => nI (Y9 j)))), (m6, .inl (eI g, 9, .inl (fun j => nI (Z9 j))))]) 0 0 := by
  refine ctI (cc := cX5_meanOf) (maxL := 5) (ret := (some .int)) (by decide) rfl (Nat.le_of_ble_eq_true rfl) ?_
  intro p_ e_ s_ m_ bl_ mt_ cd_ A ls F hnm hP hD hS hl
  obtain ⟨hx, hb, hml, hown, hts, hK, hX, hA, hrt_, hlocks⟩ := id F
  have hl : lv_has ls 5 [(0, .ref m0), (1, .ref m2), (2, .int (nI v))] := hl
  refine lv_aload_n hx hb dX5_meanOf_0 rfl (lv_at hl 0 rfl) ?_
  refine lv_aload_n hx hb dX5_meanOf_1 rfl (lv_at hl 1 rfl) ?_
  refine lv_iload_n hx hb dX5_meanOf_2 rfl (lv_at hl 2 rfl) ?_
  refine cVV (As := [.ref m2, .int (nI v)]) (rest := []) F (nc_X5_part l g m0 m1 m2 m3 m4 m5 m6 m7 m8 m9 m10 m11 m12 m13 m14 kp rn tn ia wl si S O Y Z v (hO) (hv)) kX5_part rfl gX5_meanOf_X5_part rfl rfl ⟨Nat.le_of_ble_eq_true rfl, Nat.le_of_ble_eq_true rfl⟩ hP hD hS [0, 1, 2, 3, 4] [] rfl rfl 0 rfl rfl hl.1 rfl rfl (Nat.le_of_ble_eq_true rfl) dX5_meanOf_3 ⟨Nat.le_of_ble_eq_true rfl, Nat.le_of_ble_eq_true rfl⟩ (fun w1 H locs hpo hP hD hS => ?_)
  subst hpo
  obtain ⟨hP, hD⟩ := nx (ws' := [(m0, .inr (5, [.ref m1, .ref m2, .ref m3, .int (nI kp), .ref m4, .ref m5, .ref m6, .ref m7, .ref m8, .int (nI rn), .ref m9, .int (nI tn), .int (nI ia), .int (nI wl), .ref m10, .ref m11, .ref m12, .int (nI si), .ref m13, .ref m14])), (m2, .inl (eI g, 49, .inl (fun j => nI (S j)))), (m4, .inl (eI g, 41, .inl (ofF O S (tlS S) v 40))), (m5, .inl (eI g, 9, .inl (fun j => nI ((myF S S v) j)))), (m6, .inl (eI g, 9, .inl (fun j => nI ((weF S S v) j))))]) hP hD [0, 1, 2, 3, 4] (ndB_ok _ rfl) rfl
  refine lv_iconst (v := (nI 0)) hx hb dX5_meanOf_6 (by decide) ?_
  refine lv_istore_n (lv' := [(3, .int (nI 0)), (0, .ref m0), (1, .ref m2), (2, .int (nI v))]) hx hb dX5_meanOf_7 rfl hl (by decide) rfl (fun ls hl => ?_)
  refine lv_iconst (v := (nI 0)) hx hb dX5_meanOf_8 (by decide) ?_
  refine lv_istore (lv' := [(4, .int (nI 0)), (3, .int (nI 0)), (0, .ref m0), (1, .ref m2), (2, .int (nI v))]) hx hb dX5_meanOf_9 hl (by decide) rfl (fun ls hl => ?_)
  refine xlo (σ := Nat × Nat) 5 (fun xz_ => (fun (k : Nat) (a : Nat) => [(0, .ref m0), (1, .ref m2), (2, .int (nI v)), (3, .int (nI a)), (4, .int (nI k))]) xz_.1 xz_.2) (fun xz_ => (fun (k : Nat) (a : Nat) => [(m0, .inr (5, [.ref m1, .ref m2, .ref m3, .int (nI kp), .ref m4, .ref m5, .ref m6, .ref m7, .ref m8, .int (nI rn), .ref m9, .int (nI tn), .int (nI ia), .int (nI wl), .ref m10, .ref m11, .ref m12, .int (nI si), .ref m13, .ref m14])), (m2, .inl (eI g, 49, .inl (fun j => nI (S j)))), (m4, .inl (eI g, 41, .inl (ofF O S (tlS S) v 40))), (m5, .inl (eI g, 9, .inl (fun j => nI ((myF S S v) j)))), (m6, .inl (eI g, 9, .inl (fun j => nI ((weF S S v) j))))]) xz_.1 xz_.2) (fun xz_ => (fun (k : Nat) (a : Nat) => a = sz (fun z_ => wtS S (prt (tlS S) (lpB S) v z_) * cnS (prt (tlS S) (lpB S) v z_)) k ∧ k ≤ 9) xz_.1 xz_.2) (fun xz_ => (fun (k : Nat) (a : Nat) => 9 - k) xz_.1 xz_.2) (fun xz_ hI ih11 H locs ls hP hD hS hl => ?_) (0, 0) (show 0 = sz (fun z_ => wtS S (prt (tlS S) (lpB S) v z_) * cnS (prt (tlS S) (lpB S) v z_)) 0 ∧ 0 ≤ 9 from (⟨rfl, by omega⟩)) hP hD hS (lv_sub hl [2, 3, 4, 1, 0] rfl)
  obtain ⟨k, a⟩ := xz_
  have hP : va_P (eD g) vwCl [(m0, .inr (5, [.ref m1, .ref m2, .ref m3, .int (nI kp), .ref m4, .ref m5, .ref m6, .ref m7, .ref m8, .int (nI rn), .ref m9, .int (nI tn), .int (nI ia), .int (nI wl), .ref m10, .ref m11, .ref m12, .int (nI si), .ref m13, .ref m14])), (m2, .inl (eI g, 49, .inl (fun j => nI (S j)))), (m4, .inl (eI g, 41, .inl (ofF O S (tlS S) v 40))), (m5, .inl (eI g, 9, .inl (fun j => nI ((myF S S v) j)))), (m6, .inl (eI g, 9, .inl (fun j => nI ((weF S S v) j))))] H := hP
  have hD : va_D A [(m0, .inr (5, [.ref m1, .ref m2, .ref m3, .int (nI kp), .ref m4, .ref m5, .ref m6, .ref m7, .ref m8, .int (nI rn), .ref m9, .int (nI tn), .int (nI ia), .int (nI wl), .ref m10, .ref m11, .ref m12, .int (nI si), .ref m13, .ref m14])), (m2, .inl (eI g, 49, .inl (fun j => nI (S j)))), (m4, .inl (eI g, 41, .inl (ofF O S (tlS S) v 40))), (m5, .inl (eI g, 9, .inl (fun j => nI ((myF S S v) j)))), (m6, .inl (eI g, 9, .inl (fun j => nI ((weF S S v) j))))] := hD
  have hl : lv_has ls 5 [(0, .ref m0), (1, .ref m2), (2, .int (nI v)), (3, .int (nI a)), (4, .int (nI k))] := hl
  have hI11 : a = sz (fun z_ => wtS S (prt (tlS S) (lpB S) v z_) * cnS (prt (tlS S) (lpB S) v z_)) k ∧ k ≤ 9 := hI
  clear hI
  obtain ⟨ha, hk⟩ := id hI11
  refine lv_iload hx hb dX5_meanOf_11 (lv_at hl 4 rfl) ?_
  refine lv_bipush (v := (nI 8)) hx hb dX5_meanOf_13 (by decide) ?_
  refine xgt (tgt := 42) hx hb dX5_meanOf_15 (by decide) (by omega) (by omega) (fun c15 => ?_) (fun c15 => ?_)
  · skip
    refine lv_iload_n hx hb dX5_meanOf_42 rfl (lv_at hl 3 rfl) ?_
    exact rtI F hP hD hS dX5_meanOf_43 (⟨_, _, _, by rw [ha, show k = 9 by omega]; rfl, rfl⟩)
  · skip
    refine lv_iload_n hx hb dX5_meanOf_18 rfl (lv_at hl 3 rfl) ?_
    refine lv_aload_n hx hb dX5_meanOf_19 rfl (lv_at hl 0 rfl) ?_
    refine xget F hP inX5_meanOf_X5 0 rfl rfl 6 (by decide) lkX5_meanOf_1 rfl dX5_meanOf_20 ?_
    refine lv_iload hx hb dX5_meanOf_23 (lv_at hl 4 rfl) ?_
    refine xald F hP 4 (v := (nI ((weF S S v) k))) rfl (by omega) (by omega) rfl dX5_meanOf_25 ?_
    refine lv_aload_n hx hb dX5_meanOf_26 rfl (lv_at hl 0 rfl) ?_
    refine xget F hP inX5_meanOf_X5 0 rfl rfl 5 (by decide) lkX5_meanOf_2 rfl dX5_meanOf_27 ?_
    refine lv_iload hx hb dX5_meanOf_30 (lv_at hl 4 rfl) ?_
    refine xald F hP 3 (v := (nI ((myF S S v) k))) rfl (by omega) (by omega) rfl dX5_meanOf_32 ?_
    refine xmul hx hb dX5_meanOf_33 ?_
    refine xadd hx hb dX5_meanOf_34 ?_
    refine lv_istore_n (lv' := [(3, .int (nI (a + (((weF S S v) k) * ((myF S S v) k))))), (0, .ref m0), (1, .ref m2), (2, .int (nI v)), (4, .int (nI k))]) hx hb dX5_meanOf_35 rfl hl (by decide) rfl (fun ls hl => ?_)
    refine lv_iinc (v := (nI (k + 1))) (lv' := [(4, .int (nI (k + 1))), (3, .int (nI (a + (((weF S S v) k) * ((myF S S v) k))))), (0, .ref m0), (1, .ref m2), (2, .int (nI v))]) hx hb dX5_meanOf_36 hl (k := 4) rfl (iincP k 1) (by decide) rfl (fun ls hl => ?_)
    refine lv_goto (tgt := 11) hx hb dX5_meanOf_39 (by decide) ?_
    exact ih11 (k + 1, a + (((weF S S v) k) * ((myF S S v) k))) (show (a + (((weF S S v) k) * ((myF S S v) k))) = sz (fun z_ => wtS S (prt (tlS S) (lpB S) v z_) * cnS (prt (tlS S) (lpB S) v z_)) (k + 1) ∧ (k + 1) ≤ 9 from (⟨by rw [ha]; exact me_step.symm, by omega⟩)) (show 9 - (k + 1) < 9 - k from (by omega)) _ _ _ hP hD hS (lv_sub hl [2, 3, 4, 1, 0] rfl)

theorem kX5_valueBy : Cal yX5_valueBy wsX5_valueBy cX5_valueBy 4 (some .int) 3 := ⟨⟨_, rfl⟩, by decide +kernel⟩
set_option maxHeartbeats 4000000 in
set_option maxRecDepth 100000 in
theorem nc_X5_valueBy (l : Launch) (g : EE) (m0 : Nat) (m1 : Nat) (m2 : Nat) (m3 : Nat) (m4 : Nat) (m5 : Nat) (m6 : Nat) (m7 : Nat) (m8 : Nat) (m9 : Nat) (m10 : Nat) (m11 : Nat) (m12 : Nat) (m13 : Nat) (m14 : Nat) (kp : Nat) (rn : Nat) (tn : Nat) (ia : Nat) (wl : Nat) (si : Nat) (S : Nat → Nat) (O : Nat → Int32) (Y : Nat → Nat) (Z : Nat → Nat) (bb : Nat) (v : Nat) (hO : okS S) (hv : v ≤ 40) (hbb : bb ≤ 2) : CI l yX5_valueBy wsX5_valueBy ({ frames := 6, cells := 0, slots := 0, locals := 137 }) g [.ref m0, .ref m2, .int (nI bb), .int (nI v)] [(m0, .inr (5, [.ref m1, .ref m2, .ref m3, .int (nI kp), .ref m4, .ref m5, .ref m6, .ref m7, .ref m8, .int (nI rn), .ref m9, .int (nI tn), .int (nI ia), .int (nI wl), .ref m10, .ref m11, .ref m12, .int (nI si), .ref m13, .ref m14])), (m2, .inl (eI g, 49, .inl (fun j => nI (S j)))), (m4, .inl (eI g, 41, .inl O)), (m5, .inl (eI g, 9, .inl (fun j => nI (Y j)))), (m6, .inl (eI g, 9, .inl (fun j => nI (Z j))))] (fun (rz : Int32) (wz : va_W) => ∃ O9 : Nat → Int32, ∃ Y9 : Nat → Nat, ∃ Z9 : Nat → Nat, rz = (iI (msI (tlS S) S (lpB S) bb v)) ∧ wz = [(m0, .inr (5, [.ref m1, .ref m2, .ref m3, .int (nI kp), .ref m4, .ref m5, .ref m6, .ref m7, .ref m8, .int (nI rn), .ref m9, .int (nI tn), .int (nI ia), .int (nI wl), .ref m10, .ref m11, .ref m12, .int (nI si), .ref m13, .ref m14])), (m2, .inl (eI g, 49, .inl (fun j => nI (S j)))), (m4, .inl (eI g, 41, .inl O9)), (m5, .inl (eI g, 9, .inl (fun j => nI (Y9 j)))), (m6, .inl (eI g, 9, .inl (fun j => nI (Z9 j))))]) 0 0 := by
  refine ctI (cc := cX5_valueBy) (maxL := 4) (ret := (some .int)) (by decide) rfl (Nat.le_of_ble_eq_true rfl) ?_
  intro p_ e_ s_ m_ bl_ mt_ cd_ A ls F hnm hP hD hS hl
  obtain ⟨hx, hb, hml, hown, hts, hK, hX, hA, hrt_, hlocks⟩ := id F
  have hl : lv_has ls 4 [(0, .ref m0), (1, .ref m2), (2, .int (nI bb)), (3, .int (nI v))] := hl
  refine lv_iload_n hx hb dX5_valueBy_0 rfl (lv_at hl 2 rfl) ?_
  refine zne (tgt := 13) hx hb dX5_valueBy_1 (by decide) (by omega) (fun c1 => ?_) (fun c1 => ?_)
  · skip
    refine lv_iload_n hx hb dX5_valueBy_13 rfl (lv_at hl 2 rfl) ?_
    refine lv_iconst (v := (nI 1)) hx hb dX5_valueBy_14 (by decide) ?_
    refine xne (tgt := 27) hx hb dX5_valueBy_15 (by decide) (by omega) (by omega) (fun c15 => ?_) (fun c15 => ?_)
    · skip
      refine lv_aload_n hx hb dX5_valueBy_27 rfl (lv_at hl 0 rfl) ?_
      refine lv_aload_n hx hb dX5_valueBy_28 rfl (lv_at hl 1 rfl) ?_
      refine lv_iload_n hx hb dX5_valueBy_29 rfl (lv_at hl 3 rfl) ?_
      refine cVI (As := [.ref m2, .int (nI v)]) (rest := []) F (nc_X5_partsOf l g m0 m1 m2 m3 m4 m5 m6 m7 m8 m9 m10 m11 m12 m13 m14 kp rn tn ia wl si S O Y Z v (hO) (hv)) kX5_partsOf rfl gX5_valueBy_X5_partsOf rfl rfl ⟨Nat.le_of_ble_eq_true rfl, Nat.le_of_ble_eq_true rfl⟩ hP hD hS [0, 1, 2, 3, 4] [] rfl rfl 0 rfl rfl hl.1 rfl rfl (Nat.le_of_ble_eq_true rfl) dX5_valueBy_30 ⟨Nat.le_of_ble_eq_true rfl, Nat.le_of_ble_eq_true rfl⟩ (fun rz w1 H locs hpo hP hD hS => ?_)
      obtain ⟨O9_1, Y9_1, Z9_1, rfl, rfl⟩ := hpo
      obtain ⟨hP, hD⟩ := nx (ws' := [(m0, .inr (5, [.ref m1, .ref m2, .ref m3, .int (nI kp), .ref m4, .ref m5, .ref m6, .ref m7, .ref m8, .int (nI rn), .ref m9, .int (nI tn), .int (nI ia), .int (nI wl), .ref m10, .ref m11, .ref m12, .int (nI si), .ref m13, .ref m14])), (m2, .inl (eI g, 49, .inl (fun j => nI (S j)))), (m4, .inl (eI g, 41, .inl O9_1)), (m5, .inl (eI g, 9, .inl (fun j => nI (Y9_1 j)))), (m6, .inl (eI g, 9, .inl (fun j => nI (Z9_1 j))))]) hP hD [0, 1, 2, 3, 4] (ndB_ok _ rfl) rfl
      refine lv_ineg hx hb dX5_valueBy_33 ?_
      exact rtI F hP hD hS dX5_valueBy_34 (⟨_, _, _, by unfold msI; rw [if_neg (by omega), if_pos (by omega)]; exact neg_iI _, rfl⟩)
    · skip
      refine lv_aload_n hx hb dX5_valueBy_18 rfl (lv_at hl 0 rfl) ?_
      refine lv_aload_n hx hb dX5_valueBy_19 rfl (lv_at hl 1 rfl) ?_
      refine lv_iload_n hx hb dX5_valueBy_20 rfl (lv_at hl 3 rfl) ?_
      refine cVI (As := [.ref m2, .int (nI v)]) (rest := []) F (nc_X5_meanOf l g m0 m1 m2 m3 m4 m5 m6 m7 m8 m9 m10 m11 m12 m13 m14 kp rn tn ia wl si S O Y Z v (hO) (hv)) kX5_meanOf rfl gX5_valueBy_X5_meanOf rfl rfl ⟨Nat.le_of_ble_eq_true rfl, Nat.le_of_ble_eq_true rfl⟩ hP hD hS [0, 1, 2, 3, 4] [] rfl rfl 0 rfl rfl hl.1 rfl rfl (Nat.le_of_ble_eq_true rfl) dX5_valueBy_21 ⟨Nat.le_of_ble_eq_true rfl, Nat.le_of_ble_eq_true rfl⟩ (fun rz w1 H locs hpo hP hD hS => ?_)
      obtain ⟨O9_2, Y9_2, Z9_2, rfl, rfl⟩ := hpo
      obtain ⟨hP, hD⟩ := nx (ws' := [(m0, .inr (5, [.ref m1, .ref m2, .ref m3, .int (nI kp), .ref m4, .ref m5, .ref m6, .ref m7, .ref m8, .int (nI rn), .ref m9, .int (nI tn), .int (nI ia), .int (nI wl), .ref m10, .ref m11, .ref m12, .int (nI si), .ref m13, .ref m14])), (m2, .inl (eI g, 49, .inl (fun j => nI (S j)))), (m4, .inl (eI g, 41, .inl O9_2)), (m5, .inl (eI g, 9, .inl (fun j => nI (Y9_2 j)))), (m6, .inl (eI g, 9, .inl (fun j => nI (Z9_2 j))))]) hP hD [0, 1, 2, 3, 4] (ndB_ok _ rfl) rfl
      refine lv_goto (tgt := 34) hx hb dX5_valueBy_24 (by decide) ?_
      exact rtI F hP hD hS dX5_valueBy_34 (⟨_, _, _, by unfold msI; rw [if_pos (by omega)]; rfl, rfl⟩)
  · skip
    refine lv_aload_n hx hb dX5_valueBy_4 rfl (lv_at hl 0 rfl) ?_
    refine lv_aload_n hx hb dX5_valueBy_5 rfl (lv_at hl 1 rfl) ?_
    refine lv_iload_n hx hb dX5_valueBy_6 rfl (lv_at hl 3 rfl) ?_
    refine cVI (As := [.ref m2, .int (nI v)]) (rest := []) F (nc_X5_worstOf l g m0 m1 m2 m3 m4 m5 m6 m7 m8 m9 m10 m11 m12 m13 m14 kp rn tn ia wl si S O Y Z v (hO) (hv)) kX5_worstOf rfl gX5_valueBy_X5_worstOf rfl rfl ⟨Nat.le_of_ble_eq_true rfl, Nat.le_of_ble_eq_true rfl⟩ hP hD hS [0, 1, 2, 3, 4] [] rfl rfl 0 rfl rfl hl.1 rfl rfl (Nat.le_of_ble_eq_true rfl) dX5_valueBy_7 ⟨Nat.le_of_ble_eq_true rfl, Nat.le_of_ble_eq_true rfl⟩ (fun rz w1 H locs hpo hP hD hS => ?_)
    obtain ⟨O9_3, Y9_3, Z9_3, rfl, rfl⟩ := hpo
    obtain ⟨hP, hD⟩ := nx (ws' := [(m0, .inr (5, [.ref m1, .ref m2, .ref m3, .int (nI kp), .ref m4, .ref m5, .ref m6, .ref m7, .ref m8, .int (nI rn), .ref m9, .int (nI tn), .int (nI ia), .int (nI wl), .ref m10, .ref m11, .ref m12, .int (nI si), .ref m13, .ref m14])), (m2, .inl (eI g, 49, .inl (fun j => nI (S j)))), (m4, .inl (eI g, 41, .inl O9_3)), (m5, .inl (eI g, 9, .inl (fun j => nI (Y9_3 j)))), (m6, .inl (eI g, 9, .inl (fun j => nI (Z9_3 j))))]) hP hD [0, 1, 2, 3, 4] (ndB_ok _ rfl) rfl
    refine lv_goto (tgt := 34) hx hb dX5_valueBy_10 (by decide) ?_
    exact rtI F hP hD hS dX5_valueBy_34 (⟨_, _, _, by unfold msI; rw [if_neg (by omega), if_neg (by omega)]; rfl, rfl⟩)

theorem lkX5_bestBy_2 : Cond.static Lib.Math.min.name ∈ wsX5_bestBy := List.mem_of_getElem? (i := 2) rfl
theorem lkX5_bestBy_3 : Cond.initialized "java/lang/Math" ∈ wsX5_bestBy := List.mem_of_getElem? (i := 3) rfl
theorem lkX5_bestBy_4 : Cond.code Lib.Math.min.name Lib.Math.min.code 2 (some .int) ∈ wsX5_bestBy := List.mem_of_getElem? (i := 4) rfl
theorem lkX5_bestBy_1 : Cond.methodLink RX5 74 Lib.Math.min.name ∈ wsX5_bestBy := List.mem_of_getElem? (i := 1) rfl
theorem kX5_bestBy : Cal yX5_bestBy wsX5_bestBy cX5_bestBy 7 (some .int) 2 := ⟨⟨_, rfl⟩, by decide +kernel⟩
set_option maxHeartbeats 4000000 in
set_option maxRecDepth 100000 in
theorem nc_X5_bestBy (l : Launch) (g : EE) (m0 : Nat) (m1 : Nat) (m2 : Nat) (m3 : Nat) (m4 : Nat) (m5 : Nat) (m6 : Nat) (m7 : Nat) (m8 : Nat) (m9 : Nat) (m10 : Nat) (m11 : Nat) (m12 : Nat) (m13 : Nat) (m14 : Nat) (kp : Nat) (rn : Nat) (tn : Nat) (ia : Nat) (wl : Nat) (si : Nat) (S : Nat → Nat) (O : Nat → Int32) (Y : Nat → Nat) (Z : Nat → Nat) (bb : Nat) (hO : okS S) (hbb : bb ≤ 2) : CI l yX5_bestBy wsX5_bestBy ({ frames := 7, cells := 0, slots := 0, locals := 160 }) g [.ref m0, .ref m2, .int (nI bb)] [(m0, .inr (5, [.ref m1, .ref m2, .ref m3, .int (nI kp), .ref m4, .ref m5, .ref m6, .ref m7, .ref m8, .int (nI rn), .ref m9, .int (nI tn), .int (nI ia), .int (nI wl), .ref m10, .ref m11, .ref m12, .int (nI si), .ref m13, .ref m14])), (m2, .inl (eI g, 49, .inl (fun j => nI (S j)))), (m4, .inl (eI g, 41, .inl O)), (m5, .inl (eI g, 9, .inl (fun j => nI (Y j)))), (m6, .inl (eI g, 9, .inl (fun j => nI (Z j))))] (fun (rz : Int32) (wz : va_W) => ∃ O9 : Nat → Int32, ∃ Y9 : Nat → Nat, ∃ Z9 : Nat → Nat, rz = (nI (bsI (tlS S) S (lpB S) bb)) ∧ wz = [(m0, .inr (5, [.ref m1, .ref m2, .ref m3, .int (nI kp), .ref m4, .ref m5, .ref m6, .ref m7, .ref m8, .int (nI rn), .ref m9, .int (nI tn), .int (nI ia), .int (nI wl), .ref m10, .ref m11, .ref m12, .int (nI si), .ref m13, .ref m14])), (m2, .inl (eI g, 49, .inl (fun j => nI (S j)))), (m4, .inl (eI g, 41, .inl O9)), (m5, .inl (eI g, 9, .inl (fun j => nI (Y9 j)))), (m6, .inl (eI g, 9, .inl (fun j => nI (Z9 j))))]) 0 0 := by
  refine ctI (cc := cX5_bestBy) (maxL := 7) (ret := (some .int)) (by decide) rfl (Nat.le_of_ble_eq_true rfl) ?_
  intro p_ e_ s_ m_ bl_ mt_ cd_ A ls F hnm hP hD hS hl
  obtain ⟨hx, hb, hml, hown, hts, hK, hX, hA, hrt_, hlocks⟩ := id F
  have hl : lv_has ls 7 [(0, .ref m0), (1, .ref m2), (2, .int (nI bb))] := hl
  refine lv_iconst (v := (nI 1)) hx hb dX5_bestBy_0 (by decide) ?_
  refine lv_istore_n (lv' := [(3, .int (nI 1)), (0, .ref m0), (1, .ref m2), (2, .int (nI bb))]) hx hb dX5_bestBy_1 rfl hl (by decide) rfl (fun ls hl => ?_)
  refine lv_aload_n hx hb dX5_bestBy_2 rfl (lv_at hl 1 rfl) ?_
  refine lv_aload_n hx hb dX5_bestBy_3 rfl (lv_at hl 2 rfl) ?_
  refine lv_iload_n hx hb dX5_bestBy_4 rfl (lv_at hl 3 rfl) ?_
  refine lv_iconst (v := (nI 1)) hx hb dX5_bestBy_5 (by decide) ?_
  refine cVI (As := [.ref m2, .int (nI bb), .int (nI 1)]) (rest := []) F (nc_X5_valueBy l g m0 m1 m2 m3 m4 m5 m6 m7 m8 m9 m10 m11 m12 m13 m14 kp rn tn ia wl si S O Y Z bb 1 (hO) (by omega) (hbb)) kX5_valueBy rfl gX5_bestBy_X5_valueBy rfl rfl ⟨Nat.le_of_ble_eq_true rfl, Nat.le_of_ble_eq_true rfl⟩ hP hD hS [0, 1, 2, 3, 4] [] rfl rfl 0 rfl rfl hl.1 rfl rfl (Nat.le_of_ble_eq_true rfl) dX5_bestBy_6 ⟨Nat.le_of_ble_eq_true rfl, Nat.le_of_ble_eq_true rfl⟩ (fun rz w1 H locs hpo hP hD hS => ?_)
  obtain ⟨O9_1, Y9_1, Z9_1, rfl, rfl⟩ := hpo
  obtain ⟨hP, hD⟩ := nx (ws' := [(m0, .inr (5, [.ref m1, .ref m2, .ref m3, .int (nI kp), .ref m4, .ref m5, .ref m6, .ref m7, .ref m8, .int (nI rn), .ref m9, .int (nI tn), .int (nI ia), .int (nI wl), .ref m10, .ref m11, .ref m12, .int (nI si), .ref m13, .ref m14])), (m2, .inl (eI g, 49, .inl (fun j => nI (S j)))), (m4, .inl (eI g, 41, .inl O9_1)), (m5, .inl (eI g, 9, .inl (fun j => nI (Y9_1 j)))), (m6, .inl (eI g, 9, .inl (fun j => nI (Z9_1 j))))]) hP hD [0, 1, 2, 3, 4] (ndB_ok _ rfl) rfl
  refine lv_istore (lv' := [(4, .int (iI (msI (tlS S) S (lpB S) bb 1))), (3, .int (nI 1)), (0, .ref m0), (1, .ref m2), (2, .int (nI bb))]) hx hb dX5_bestBy_9 hl (by decide) rfl (fun ls hl => ?_)
  refine lv_iconst (v := (nI 2)) hx hb dX5_bestBy_11 (by decide) ?_
  refine lv_istore (lv' := [(5, .int (nI 2)), (4, .int (iI (msI (tlS S) S (lpB S) bb 1))), (3, .int (nI 1)), (0, .ref m0), (1, .ref m2), (2, .int (nI bb))]) hx hb dX5_bestBy_12 hl (by decide) rfl (fun ls hl => ?_)
  refine xlo (σ := Nat × Nat × (Nat → Int32) × (Nat → Nat) × (Nat → Nat)) 7 (fun xz_ => (fun (i : Nat) (b : Nat) (o : Nat → Int32) (y2 : Nat → Nat) (z2 : Nat → Nat) => [(0, .ref m0), (1, .ref m2), (2, .int (nI bb)), (3, .int (nI b)), (4, .int (iI (msI (tlS S) S (lpB S) bb b))), (5, .int (nI i))]) xz_.1 xz_.2.1 xz_.2.2.1 xz_.2.2.2.1 xz_.2.2.2.2) (fun xz_ => (fun (i : Nat) (b : Nat) (o : Nat → Int32) (y2 : Nat → Nat) (z2 : Nat → Nat) => [(m0, .inr (5, [.ref m1, .ref m2, .ref m3, .int (nI kp), .ref m4, .ref m5, .ref m6, .ref m7, .ref m8, .int (nI rn), .ref m9, .int (nI tn), .int (nI ia), .int (nI wl), .ref m10, .ref m11, .ref m12, .int (nI si), .ref m13, .ref m14])), (m2, .inl (eI g, 49, .inl (fun j => nI (S j)))), (m4, .inl (eI g, 41, .inl o)), (m5, .inl (eI g, 9, .inl (fun j => nI (y2 j)))), (m6, .inl (eI g, 9, .inl (fun j => nI (z2 j))))]) xz_.1 xz_.2.1 xz_.2.2.1 xz_.2.2.2.1 xz_.2.2.2.2) (fun xz_ => (fun (i : Nat) (b : Nat) (o : Nat → Int32) (y2 : Nat → Nat) (z2 : Nat → Nat) => b = am (msI (tlS S) S (lpB S) bb) (i - 1) ∧ 2 ≤ i ∧ i ≤ 41) xz_.1 xz_.2.1 xz_.2.2.1 xz_.2.2.2.1 xz_.2.2.2.2) (fun xz_ => (fun (i : Nat) (b : Nat) (o : Nat → Int32) (y2 : Nat → Nat) (z2 : Nat → Nat) => 41 - i) xz_.1 xz_.2.1 xz_.2.2.1 xz_.2.2.2.1 xz_.2.2.2.2) (fun xz_ hI ih14 H locs ls hP hD hS hl => ?_) (2, 1, O9_1, Y9_1, Z9_1) (show 1 = am (msI (tlS S) S (lpB S) bb) (2 - 1) ∧ 2 ≤ 2 ∧ 2 ≤ 41 from (⟨(am_1 _).symm, by omega, by omega⟩)) hP hD hS (lv_sub hl [3, 4, 5, 2, 1, 0] rfl)
  obtain ⟨i, b, o, y2, z2⟩ := xz_
  have hP : va_P (eD g) vwCl [(m0, .inr (5, [.ref m1, .ref m2, .ref m3, .int (nI kp), .ref m4, .ref m5, .ref m6, .ref m7, .ref m8, .int (nI rn), .ref m9, .int (nI tn), .int (nI ia), .int (nI wl), .ref m10, .ref m11, .ref m12, .int (nI si), .ref m13, .ref m14])), (m2, .inl (eI g, 49, .inl (fun j => nI (S j)))), (m4, .inl (eI g, 41, .inl o)), (m5, .inl (eI g, 9, .inl (fun j => nI (y2 j)))), (m6, .inl (eI g, 9, .inl (fun j => nI (z2 j))))] H := hP
  have hD : va_D A [(m0, .inr (5, [.ref m1, .ref m2, .ref m3, .int (nI kp), .ref m4, .ref m5, .ref m6, .ref m7, .ref m8, .int (nI rn), .ref m9, .int (nI tn), .int (nI ia), .int (nI wl), .ref m10, .ref m11, .ref m12, .int (nI si), .ref m13, .ref m14])), (m2, .inl (eI g, 49, .inl (fun j => nI (S j)))), (m4, .inl (eI g, 41, .inl o)), (m5, .inl (eI g, 9, .inl (fun j => nI (y2 j)))), (m6, .inl (eI g, 9, .inl (fun j => nI (z2 j))))] := hD
  have hl : lv_has ls 7 [(0, .ref m0), (1, .ref m2), (2, .int (nI bb)), (3, .int (nI b)), (4, .int (iI (msI (tlS S) S (lpB S) bb b))), (5, .int (nI i))] := hl
  have hI14 : b = am (msI (tlS S) S (lpB S) bb) (i - 1) ∧ 2 ≤ i ∧ i ≤ 41 := hI
  clear hI
  obtain ⟨hb0, hi1, hi2⟩ := id hI14
  refine lv_iload hx hb dX5_bestBy_14 (lv_at hl 5 rfl) ?_
  refine lv_bipush (v := (nI 40)) hx hb dX5_bestBy_16 (by decide) ?_
  refine xgt (tgt := 60) hx hb dX5_bestBy_18 (by decide) (by omega) (by omega) (fun c18 => ?_) (fun c18 => ?_)
  · skip
    refine lv_iload_n hx hb dX5_bestBy_60 rfl (lv_at hl 3 rfl) ?_
    exact rtI F hP hD hS dX5_bestBy_61 (⟨_, _, _, by rw [hb0, show i - 1 = 40 by omega]; rfl, rfl⟩)
  · skip
    refine lv_aload_n hx hb dX5_bestBy_21 rfl (lv_at hl 0 rfl) ?_
    refine lv_aload_n hx hb dX5_bestBy_22 rfl (lv_at hl 1 rfl) ?_
    refine lv_iload_n hx hb dX5_bestBy_23 rfl (lv_at hl 2 rfl) ?_
    refine lv_iload hx hb dX5_bestBy_24 (lv_at hl 5 rfl) ?_
    refine cVI (As := [.ref m2, .int (nI bb), .int (nI i)]) (rest := []) F (nc_X5_valueBy l g m0 m1 m2 m3 m4 m5 m6 m7 m8 m9 m10 m11 m12 m13 m14 kp rn tn ia wl si S o y2 z2 bb i (hO) (by omega) (hbb)) kX5_valueBy rfl gX5_bestBy_X5_valueBy rfl rfl ⟨Nat.le_of_ble_eq_true rfl, Nat.le_of_ble_eq_true rfl⟩ hP hD hS [0, 1, 2, 3, 4] [] rfl rfl 0 rfl rfl hl.1 rfl rfl (Nat.le_of_ble_eq_true rfl) dX5_bestBy_26 ⟨Nat.le_of_ble_eq_true rfl, Nat.le_of_ble_eq_true rfl⟩ (fun rz w1 H locs hpo hP hD hS => ?_)
    obtain ⟨O9_2, Y9_2, Z9_2, rfl, rfl⟩ := hpo
    obtain ⟨hP, hD⟩ := nx (ws' := [(m0, .inr (5, [.ref m1, .ref m2, .ref m3, .int (nI kp), .ref m4, .ref m5, .ref m6, .ref m7, .ref m8, .int (nI rn), .ref m9, .int (nI tn), .int (nI ia), .int (nI wl), .ref m10, .ref m11, .ref m12, .int (nI si), .ref m13, .ref m14])), (m2, .inl (eI g, 49, .inl (fun j => nI (S j)))), (m4, .inl (eI g, 41, .inl O9_2)), (m5, .inl (eI g, 9, .inl (fun j => nI (Y9_2 j)))), (m6, .inl (eI g, 9, .inl (fun j => nI (Z9_2 j))))]) hP hD [0, 1, 2, 3, 4] (ndB_ok _ rfl) rfl
    refine lv_istore (lv' := [(6, .int (iI (msI (tlS S) S (lpB S) bb i))), (0, .ref m0), (1, .ref m2), (2, .int (nI bb)), (3, .int (nI b)), (4, .int (iI (msI (tlS S) S (lpB S) bb b))), (5, .int (nI i))]) hx hb dX5_bestBy_29 hl (by decide) rfl (fun ls hl => ?_)
    refine lv_iload hx hb dX5_bestBy_31 (lv_at hl 0 rfl) ?_
    refine lv_iload hx hb dX5_bestBy_33 (lv_at hl 5 rfl) ?_
    refine lv_icmp_ge (tgt := 43) hx hb dX5_bestBy_35 (by decide) (fun c35 => ?_) (fun c35 => ?_)
    · skip
      refine lv_iload_n hx hb dX5_bestBy_43 rfl (lv_at hl 4 rfl) ?_
      refine lv_istore_n (lv' := [(3, .int (nI b)), (6, .int (iI (msI (tlS S) S (lpB S) bb i))), (0, .ref m0), (1, .ref m2), (2, .int (nI bb)), (4, .int (iI (msI (tlS S) S (lpB S) bb b))), (5, .int (nI i))]) hx hb dX5_bestBy_44 rfl hl (by decide) rfl (fun ls hl => ?_)
      refine lv_iload hx hb dX5_bestBy_45 (lv_at hl 5 rfl) ?_
      refine lv_iload hx hb dX5_bestBy_47 (lv_at hl 1 rfl) ?_
      refine va_mmin hx hb (hml.trans hl.1.symm) hown (F.lk lkX5_bestBy_1) (F.lk lkX5_bestBy_2) (F.lk lkX5_bestBy_3) (F.lk lkX5_bestBy_4) (Nat.le_of_ble_eq_true rfl) (Nat.le_of_ble_eq_true rfl) (Nat.le_of_ble_eq_true rfl) (Nat.le_of_ble_eq_true rfl) dX5_bestBy_49 ?_
      refine sti (if_neg (Int32.not_lt.mpr c35)) ?_
      refine lv_istore (lv' := [(4, .int (iI (msI (tlS S) S (lpB S) bb b))), (3, .int (nI b)), (6, .int (iI (msI (tlS S) S (lpB S) bb i))), (0, .ref m0), (1, .ref m2), (2, .int (nI bb)), (5, .int (nI i))]) hx hb dX5_bestBy_52 hl (by decide) rfl (fun ls hl => ?_)
      refine lv_iinc (v := (nI (i + 1))) (lv' := [(5, .int (nI (i + 1))), (4, .int (iI (msI (tlS S) S (lpB S) bb b))), (3, .int (nI b)), (6, .int (iI (msI (tlS S) S (lpB S) bb i))), (0, .ref m0), (1, .ref m2), (2, .int (nI bb))]) hx hb dX5_bestBy_54 hl (k := 6) rfl (iincP i 1) (by decide) rfl (fun ls hl => ?_)
      refine lv_goto (tgt := 14) hx hb dX5_bestBy_57 (by decide) ?_
      exact ih14 (i + 1, b, O9_2, Y9_2, Z9_2) (show b = am (msI (tlS S) S (lpB S) bb) ((i + 1) - 1) ∧ 2 ≤ (i + 1) ∧ (i + 1) ≤ 41 from (⟨am_old (by omega) hb0 (Int.not_lt.mp (fun z => absurd ((iI_lt (msS_b hO.1) (msS_b hO.1)).mpr z) (Int32.not_lt.mpr c35))), by omega, by omega⟩)) (show 41 - (i + 1) < 41 - i from (by omega)) _ _ _ hP hD hS (lv_sub hl [4, 5, 6, 2, 1, 0] rfl)
    · skip
      refine lv_iload hx hb dX5_bestBy_38 (lv_at hl 6 rfl) ?_
      refine lv_goto (tgt := 44) hx hb dX5_bestBy_40 (by decide) ?_
      refine lv_istore_n (lv' := [(3, .int (nI i)), (6, .int (iI (msI (tlS S) S (lpB S) bb i))), (0, .ref m0), (1, .ref m2), (2, .int (nI bb)), (4, .int (iI (msI (tlS S) S (lpB S) bb b))), (5, .int (nI i))]) hx hb dX5_bestBy_44 rfl hl (by decide) rfl (fun ls hl => ?_)
      refine lv_iload hx hb dX5_bestBy_45 (lv_at hl 5 rfl) ?_
      refine lv_iload hx hb dX5_bestBy_47 (lv_at hl 1 rfl) ?_
      refine va_mmin hx hb (hml.trans hl.1.symm) hown (F.lk lkX5_bestBy_1) (F.lk lkX5_bestBy_2) (F.lk lkX5_bestBy_3) (F.lk lkX5_bestBy_4) (Nat.le_of_ble_eq_true rfl) (Nat.le_of_ble_eq_true rfl) (Nat.le_of_ble_eq_true rfl) (Nat.le_of_ble_eq_true rfl) dX5_bestBy_49 ?_
      refine sti (if_pos (Int32.not_le.mp c35)) ?_
      refine lv_istore (lv' := [(4, .int (iI (msI (tlS S) S (lpB S) bb i))), (3, .int (nI i)), (6, .int (iI (msI (tlS S) S (lpB S) bb i))), (0, .ref m0), (1, .ref m2), (2, .int (nI bb)), (5, .int (nI i))]) hx hb dX5_bestBy_52 hl (by decide) rfl (fun ls hl => ?_)
      refine lv_iinc (v := (nI (i + 1))) (lv' := [(5, .int (nI (i + 1))), (4, .int (iI (msI (tlS S) S (lpB S) bb i))), (3, .int (nI i)), (6, .int (iI (msI (tlS S) S (lpB S) bb i))), (0, .ref m0), (1, .ref m2), (2, .int (nI bb))]) hx hb dX5_bestBy_54 hl (k := 6) rfl (iincP i 1) (by decide) rfl (fun ls hl => ?_)
      refine lv_goto (tgt := 14) hx hb dX5_bestBy_57 (by decide) ?_
      exact ih14 (i + 1, i, O9_2, Y9_2, Z9_2) (show i = am (msI (tlS S) S (lpB S) bb) ((i + 1) - 1) ∧ 2 ≤ (i + 1) ∧ (i + 1) ≤ 41 from (⟨am_new (by omega) hb0 ((iI_lt (msS_b hO.1) (msS_b hO.1)).mp (Int32.not_le.mp c35)), by omega, by omega⟩)) (show 41 - (i + 1) < 41 - i from (by omega)) _ _ _ hP hD hS (lv_sub hl [4, 5, 6, 2, 1, 0] rfl)

theorem inX5_faultsAt_X5 : ∀ w ∈ u_ws RX5 TX5 20, w ∈ wsX5_faultsAt := fun _ h => (List.mem_cons_of_mem _ (List.mem_append_right _ h))
theorem lkX5_faultsAt_1 : Cond.fieldLink RX5 19 "StripInFiveStepsModel" "now" "[I" ∈ wsX5_faultsAt := List.mem_of_getElem? (i := 1) rfl
theorem lkX5_faultsAt_3 : Cond.static Lib.Math.abs.name ∈ wsX5_faultsAt := List.mem_of_getElem? (i := 3) rfl
theorem lkX5_faultsAt_4 : Cond.initialized "java/lang/Math" ∈ wsX5_faultsAt := List.mem_of_getElem? (i := 4) rfl
theorem lkX5_faultsAt_5 : Cond.code Lib.Math.abs.name Lib.Math.abs.code 1 (some .int) ∈ wsX5_faultsAt := List.mem_of_getElem? (i := 5) rfl
theorem lkX5_faultsAt_2 : Cond.methodLink RX5 83 Lib.Math.abs.name ∈ wsX5_faultsAt := List.mem_of_getElem? (i := 2) rfl
theorem kX5_faultsAt : Cal yX5_faultsAt wsX5_faultsAt cX5_faultsAt 5 (some .int) 2 := ⟨⟨_, rfl⟩, by decide +kernel⟩
set_option maxHeartbeats 4000000 in
set_option maxRecDepth 100000 in
theorem nc_X5_faultsAt (l : Launch) (g : EE) (m0 : Nat) (m1 : Nat) (m2 : Nat) (m3 : Nat) (m4 : Nat) (m5 : Nat) (m6 : Nat) (m7 : Nat) (m8 : Nat) (m9 : Nat) (m10 : Nat) (m11 : Nat) (m12 : Nat) (m13 : Nat) (m14 : Nat) (kp : Nat) (rn : Nat) (tn : Nat) (ia : Nat) (wl : Nat) (si : Nat) (S : Nat → Nat) (u : Nat) (hO : okS S) (hu : u ≤ 40) : CI l yX5_faultsAt wsX5_faultsAt ({ frames := 1, cells := 0, slots := 0, locals := 15 }) g [.ref m0, .ref m2, .int (nI u)] [(m0, .inr (5, [.ref m1, .ref m2, .ref m3, .int (nI kp), .ref m4, .ref m5, .ref m6, .ref m7, .ref m8, .int (nI rn), .ref m9, .int (nI tn), .int (nI ia), .int (nI wl), .ref m10, .ref m11, .ref m12, .int (nI si), .ref m13, .ref m14])), (m2, .inl (eI g, 49, .inl (fun j => nI (S j))))] (fun (rz : Int32) (wz : va_W) => rz = (nI (faS S (lpB S) u * S 45)) ∧ wz = [(m0, .inr (5, [.ref m1, .ref m2, .ref m3, .int (nI kp), .ref m4, .ref m5, .ref m6, .ref m7, .ref m8, .int (nI rn), .ref m9, .int (nI tn), .int (nI ia), .int (nI wl), .ref m10, .ref m11, .ref m12, .int (nI si), .ref m13, .ref m14])), (m2, .inl (eI g, 49, .inl (fun j => nI (S j))))]) 0 0 := by
  refine ctI (cc := cX5_faultsAt) (maxL := 5) (ret := (some .int)) (by decide) rfl (Nat.le_of_ble_eq_true rfl) ?_
  intro p_ e_ s_ m_ bl_ mt_ cd_ A ls F hnm hP hD hS hl
  obtain ⟨hx, hb, hml, hown, hts, hK, hX, hA, hrt_, hlocks⟩ := id F
  have hl : lv_has ls 5 [(0, .ref m0), (1, .ref m2), (2, .int (nI u))] := hl
  refine lv_iconst (v := (nI 0)) hx hb dX5_faultsAt_0 (by decide) ?_
  refine lv_istore_n (lv' := [(3, .int (nI 0)), (0, .ref m0), (1, .ref m2), (2, .int (nI u))]) hx hb dX5_faultsAt_1 rfl hl (by decide) rfl (fun ls hl => ?_)
  refine lv_iconst (v := (nI 1)) hx hb dX5_faultsAt_2 (by decide) ?_
  refine lv_istore (lv' := [(4, .int (nI 1)), (3, .int (nI 0)), (0, .ref m0), (1, .ref m2), (2, .int (nI u))]) hx hb dX5_faultsAt_3 hl (by decide) rfl (fun ls hl => ?_)
  refine xlo (σ := Nat × Nat) 5 (fun xz_ => (fun (i : Nat) (a : Nat) => [(0, .ref m0), (1, .ref m2), (2, .int (nI u)), (3, .int (nI a)), (4, .int (nI i))]) xz_.1 xz_.2) (fun xz_ => (fun (i : Nat) (a : Nat) => [(m0, .inr (5, [.ref m1, .ref m2, .ref m3, .int (nI kp), .ref m4, .ref m5, .ref m6, .ref m7, .ref m8, .int (nI rn), .ref m9, .int (nI tn), .int (nI ia), .int (nI wl), .ref m10, .ref m11, .ref m12, .int (nI si), .ref m13, .ref m14])), (m2, .inl (eI g, 49, .inl (fun j => nI (S j))))]) xz_.1 xz_.2) (fun xz_ => (fun (i : Nat) (a : Nat) => a = sg (fun r => S r * S 45 * dst u r) (i - 1) ∧ 1 ≤ i ∧ i ≤ 41) xz_.1 xz_.2) (fun xz_ => (fun (i : Nat) (a : Nat) => 41 - i) xz_.1 xz_.2) (fun xz_ hI ih5 H locs ls hP hD hS hl => ?_) (1, 0) (show 0 = sg (fun r => S r * S 45 * dst u r) (1 - 1) ∧ 1 ≤ 1 ∧ 1 ≤ 41 from (⟨rfl, by omega, by omega⟩)) hP hD hS (lv_sub hl [2, 3, 4, 1, 0] rfl)
  obtain ⟨i, a⟩ := xz_
  have hP : va_P (eD g) vwCl [(m0, .inr (5, [.ref m1, .ref m2, .ref m3, .int (nI kp), .ref m4, .ref m5, .ref m6, .ref m7, .ref m8, .int (nI rn), .ref m9, .int (nI tn), .int (nI ia), .int (nI wl), .ref m10, .ref m11, .ref m12, .int (nI si), .ref m13, .ref m14])), (m2, .inl (eI g, 49, .inl (fun j => nI (S j))))] H := hP
  have hD : va_D A [(m0, .inr (5, [.ref m1, .ref m2, .ref m3, .int (nI kp), .ref m4, .ref m5, .ref m6, .ref m7, .ref m8, .int (nI rn), .ref m9, .int (nI tn), .int (nI ia), .int (nI wl), .ref m10, .ref m11, .ref m12, .int (nI si), .ref m13, .ref m14])), (m2, .inl (eI g, 49, .inl (fun j => nI (S j))))] := hD
  have hl : lv_has ls 5 [(0, .ref m0), (1, .ref m2), (2, .int (nI u)), (3, .int (nI a)), (4, .int (nI i))] := hl
  have hI5 : a = sg (fun r => S r * S 45 * dst u r) (i - 1) ∧ 1 ≤ i ∧ i ≤ 41 := hI
  clear hI
  obtain ⟨ha, hi1, hi2⟩ := id hI5
  refine lv_iload hx hb dX5_faultsAt_5 (lv_at hl 4 rfl) ?_
  refine lv_bipush (v := (nI 40)) hx hb dX5_faultsAt_7 (by decide) ?_
  refine xgt (tgt := 41) hx hb dX5_faultsAt_9 (by decide) (by omega) (by omega) (fun c9 => ?_) (fun c9 => ?_)
  · skip
    refine lv_iload_n hx hb dX5_faultsAt_41 rfl (lv_at hl 3 rfl) ?_
    exact rtI F hP hD hS dX5_faultsAt_42 (⟨by rw [ha, show i - 1 = 40 by omega, faS_lin], rfl⟩)
  · skip
    refine lv_iload_n hx hb dX5_faultsAt_12 rfl (lv_at hl 3 rfl) ?_
    refine lv_aload_n hx hb dX5_faultsAt_13 rfl (lv_at hl 1 rfl) ?_
    refine lv_iload hx hb dX5_faultsAt_14 (lv_at hl 4 rfl) ?_
    refine xald F hP 1 (v := (nI (S i))) rfl (by omega) (by omega) rfl dX5_faultsAt_16 ?_
    refine lv_aload_n hx hb dX5_faultsAt_17 rfl (lv_at hl 0 rfl) ?_
    refine xget F hP inX5_faultsAt_X5 0 rfl rfl 1 (by decide) lkX5_faultsAt_1 rfl dX5_faultsAt_18 ?_
    refine lv_bipush (v := (nI 45)) hx hb dX5_faultsAt_21 (by decide) ?_
    refine xald F hP 1 (v := (nI (S 45))) rfl (by omega) (by omega) rfl dX5_faultsAt_23 ?_
    refine xmul hx hb dX5_faultsAt_24 ?_
    refine lv_iload_n hx hb dX5_faultsAt_25 rfl (lv_at hl 2 rfl) ?_
    refine lv_iload hx hb dX5_faultsAt_26 (lv_at hl 4 rfl) ?_
    refine lv_isub hx hb dX5_faultsAt_28 ?_
    refine xabs F hl.1 lkX5_faultsAt_2 lkX5_faultsAt_3 lkX5_faultsAt_4 lkX5_faultsAt_5 (Nat.le_of_ble_eq_true rfl) (Nat.le_of_ble_eq_true rfl) ⟨Nat.le_of_ble_eq_true rfl, Nat.le_of_ble_eq_true rfl⟩ (by omega) (by omega) dX5_faultsAt_29 ?_
    refine xmul hx hb dX5_faultsAt_32 ?_
    refine xadd hx hb dX5_faultsAt_33 ?_
    refine lv_istore_n (lv' := [(3, .int (nI (a + (((S i) * (S 45)) * (dst u i))))), (0, .ref m0), (1, .ref m2), (2, .int (nI u)), (4, .int (nI i))]) hx hb dX5_faultsAt_34 rfl hl (by decide) rfl (fun ls hl => ?_)
    refine lv_iinc (v := (nI (i + 1))) (lv' := [(4, .int (nI (i + 1))), (3, .int (nI (a + (((S i) * (S 45)) * (dst u i))))), (0, .ref m0), (1, .ref m2), (2, .int (nI u))]) hx hb dX5_faultsAt_35 hl (k := 4) rfl (iincP i 1) (by decide) rfl (fun ls hl => ?_)
    refine lv_goto (tgt := 5) hx hb dX5_faultsAt_38 (by decide) ?_
    exact ih5 (i + 1, a + (((S i) * (S 45)) * (dst u i))) (show (a + (((S i) * (S 45)) * (dst u i))) = sg (fun r => S r * S 45 * dst u r) ((i + 1) - 1) ∧ 1 ≤ (i + 1) ∧ (i + 1) ≤ 41 from (⟨by rw [ha]; exact (sg_step (f := fun r => S r * S 45 * dst u r) (by omega) rfl).symm, by omega, by omega⟩)) (show 41 - (i + 1) < 41 - i from (by omega)) _ _ _ hP hD hS (lv_sub hl [2, 3, 4, 1, 0] rfl)

theorem kX5_giveBy : Cal yX5_giveBy wsX5_giveBy cX5_giveBy 4 (some .int) 1 := ⟨⟨_, rfl⟩, by decide +kernel⟩
set_option maxHeartbeats 4000000 in
set_option maxRecDepth 100000 in
theorem nc_X5_giveBy (l : Launch) (g : EE) (m0 : Nat) (m1 : Nat) (m2 : Nat) (m3 : Nat) (m4 : Nat) (m5 : Nat) (m6 : Nat) (m7 : Nat) (m8 : Nat) (m9 : Nat) (m10 : Nat) (m11 : Nat) (m12 : Nat) (m13 : Nat) (m14 : Nat) (kp : Nat) (rn : Nat) (tn : Nat) (ia : Nat) (wl : Nat) (si : Nat) (S : Nat → Nat) (hO : okS S) : CI l yX5_giveBy wsX5_giveBy ({ frames := 2, cells := 0, slots := 0, locals := 39 }) g [.ref m0, .ref m2] [(m0, .inr (5, [.ref m1, .ref m2, .ref m3, .int (nI kp), .ref m4, .ref m5, .ref m6, .ref m7, .ref m8, .int (nI rn), .ref m9, .int (nI tn), .int (nI ia), .int (nI wl), .ref m10, .ref m11, .ref m12, .int (nI si), .ref m13, .ref m14])), (m2, .inl (eI g, 49, .inl (fun j => nI (S j))))] (fun (rz : Int32) (wz : va_W) => rz = (nI (giS S (lpB S) (S 45))) ∧ wz = [(m0, .inr (5, [.ref m1, .ref m2, .ref m3, .int (nI kp), .ref m4, .ref m5, .ref m6, .ref m7, .ref m8, .int (nI rn), .ref m9, .int (nI tn), .int (nI ia), .int (nI wl), .ref m10, .ref m11, .ref m12, .int (nI si), .ref m13, .ref m14])), (m2, .inl (eI g, 49, .inl (fun j => nI (S j))))]) 0 0 := by
  refine ctI (cc := cX5_giveBy) (maxL := 4) (ret := (some .int)) (by decide) rfl (Nat.le_of_ble_eq_true rfl) ?_
  intro p_ e_ s_ m_ bl_ mt_ cd_ A ls F hnm hP hD hS hl
  obtain ⟨hx, hb, hml, hown, hts, hK, hX, hA, hrt_, hlocks⟩ := id F
  have hl : lv_has ls 4 [(0, .ref m0), (1, .ref m2)] := hl
  refine lv_iconst (v := (nI 1)) hx hb dX5_giveBy_0 (by decide) ?_
  refine lv_istore_n (lv' := [(2, .int (nI 1)), (0, .ref m0), (1, .ref m2)]) hx hb dX5_giveBy_1 rfl hl (by decide) rfl (fun ls hl => ?_)
  refine lv_iconst (v := (nI 2)) hx hb dX5_giveBy_2 (by decide) ?_
  refine lv_istore_n (lv' := [(3, .int (nI 2)), (2, .int (nI 1)), (0, .ref m0), (1, .ref m2)]) hx hb dX5_giveBy_3 rfl hl (by decide) rfl (fun ls hl => ?_)
  refine xlo (σ := Nat × Nat) 4 (fun xz_ => (fun (i : Nat) (b : Nat) => [(0, .ref m0), (1, .ref m2), (2, .int (nI b)), (3, .int (nI i))]) xz_.1 xz_.2) (fun xz_ => (fun (i : Nat) (b : Nat) => [(m0, .inr (5, [.ref m1, .ref m2, .ref m3, .int (nI kp), .ref m4, .ref m5, .ref m6, .ref m7, .ref m8, .int (nI rn), .ref m9, .int (nI tn), .int (nI ia), .int (nI wl), .ref m10, .ref m11, .ref m12, .int (nI si), .ref m13, .ref m14])), (m2, .inl (eI g, 49, .inl (fun j => nI (S j))))]) xz_.1 xz_.2) (fun xz_ => (fun (i : Nat) (b : Nat) => b = am (fun v => ((faS S (lpB S) v * S 45 : Nat) : Int)) (i - 1) ∧ 2 ≤ i ∧ i ≤ 41) xz_.1 xz_.2) (fun xz_ => (fun (i : Nat) (b : Nat) => 41 - i) xz_.1 xz_.2) (fun xz_ hI ih4 H locs ls hP hD hS hl => ?_) (2, 1) (show 1 = am (fun v => ((faS S (lpB S) v * S 45 : Nat) : Int)) (2 - 1) ∧ 2 ≤ 2 ∧ 2 ≤ 41 from (⟨(am_1 _).symm, by omega, by omega⟩)) hP hD hS (lv_sub hl [2, 3, 1, 0] rfl)
  obtain ⟨i, b⟩ := xz_
  have hP : va_P (eD g) vwCl [(m0, .inr (5, [.ref m1, .ref m2, .ref m3, .int (nI kp), .ref m4, .ref m5, .ref m6, .ref m7, .ref m8, .int (nI rn), .ref m9, .int (nI tn), .int (nI ia), .int (nI wl), .ref m10, .ref m11, .ref m12, .int (nI si), .ref m13, .ref m14])), (m2, .inl (eI g, 49, .inl (fun j => nI (S j))))] H := hP
  have hD : va_D A [(m0, .inr (5, [.ref m1, .ref m2, .ref m3, .int (nI kp), .ref m4, .ref m5, .ref m6, .ref m7, .ref m8, .int (nI rn), .ref m9, .int (nI tn), .int (nI ia), .int (nI wl), .ref m10, .ref m11, .ref m12, .int (nI si), .ref m13, .ref m14])), (m2, .inl (eI g, 49, .inl (fun j => nI (S j))))] := hD
  have hl : lv_has ls 4 [(0, .ref m0), (1, .ref m2), (2, .int (nI b)), (3, .int (nI i))] := hl
  have hI4 : b = am (fun v => ((faS S (lpB S) v * S 45 : Nat) : Int)) (i - 1) ∧ 2 ≤ i ∧ i ≤ 41 := hI
  clear hI
  obtain ⟨hb0, hi1, hi2⟩ := id hI4
  have hbin := am_in (fun v => ((faS S (lpB S) v * S 45 : Nat) : Int)) (i - 1)
  rw [← hb0] at hbin
  refine lv_iload_n hx hb dX5_giveBy_4 rfl (lv_at hl 3 rfl) ?_
  refine lv_bipush (v := (nI 40)) hx hb dX5_giveBy_5 (by decide) ?_
  refine xgt (tgt := 37) hx hb dX5_giveBy_7 (by decide) (by omega) (by omega) (fun c7 => ?_) (fun c7 => ?_)
  · skip
    refine lv_iload_n hx hb dX5_giveBy_37 rfl (lv_at hl 2 rfl) ?_
    exact rtI F hP hD hS dX5_giveBy_38 (⟨by rw [hb0, show i - 1 = 40 by omega]; rfl, rfl⟩)
  · skip
    refine lv_aload_n hx hb dX5_giveBy_10 rfl (lv_at hl 0 rfl) ?_
    refine lv_aload_n hx hb dX5_giveBy_11 rfl (lv_at hl 1 rfl) ?_
    refine lv_iload_n hx hb dX5_giveBy_12 rfl (lv_at hl 3 rfl) ?_
    refine cVI (As := [.ref m2, .int (nI i)]) (rest := []) F (nc_X5_faultsAt l g m0 m1 m2 m3 m4 m5 m6 m7 m8 m9 m10 m11 m12 m13 m14 kp rn tn ia wl si S i (hO) (by omega)) kX5_faultsAt rfl gX5_giveBy_X5_faultsAt rfl rfl ⟨Nat.le_of_ble_eq_true rfl, Nat.le_of_ble_eq_true rfl⟩ hP hD hS [0, 1] [] rfl rfl 0 rfl rfl hl.1 rfl rfl (Nat.le_of_ble_eq_true rfl) dX5_giveBy_13 ⟨Nat.le_of_ble_eq_true rfl, Nat.le_of_ble_eq_true rfl⟩ (fun rz w1 H locs hpo hP hD hS => ?_)
    obtain ⟨rfl, rfl⟩ := hpo
    obtain ⟨hP, hD⟩ := nx (ws' := [(m0, .inr (5, [.ref m1, .ref m2, .ref m3, .int (nI kp), .ref m4, .ref m5, .ref m6, .ref m7, .ref m8, .int (nI rn), .ref m9, .int (nI tn), .int (nI ia), .int (nI wl), .ref m10, .ref m11, .ref m12, .int (nI si), .ref m13, .ref m14])), (m2, .inl (eI g, 49, .inl (fun j => nI (S j))))]) hP hD [0, 1] (ndB_ok _ rfl) rfl
    refine lv_aload_n hx hb dX5_giveBy_16 rfl (lv_at hl 0 rfl) ?_
    refine lv_aload_n hx hb dX5_giveBy_17 rfl (lv_at hl 1 rfl) ?_
    refine lv_iload_n hx hb dX5_giveBy_18 rfl (lv_at hl 2 rfl) ?_
    refine cVI (As := [.ref m2, .int (nI b)]) (rest := [.int (nI (faS S (lpB S) i * S 45))]) F (nc_X5_faultsAt l g m0 m1 m2 m3 m4 m5 m6 m7 m8 m9 m10 m11 m12 m13 m14 kp rn tn ia wl si S b (hO) (by omega)) kX5_faultsAt rfl gX5_giveBy_X5_faultsAt rfl rfl ⟨Nat.le_of_ble_eq_true rfl, Nat.le_of_ble_eq_true rfl⟩ hP hD hS [0, 1] [] rfl rfl 0 rfl rfl hl.1 rfl rfl (Nat.le_of_ble_eq_true rfl) dX5_giveBy_19 ⟨Nat.le_of_ble_eq_true rfl, Nat.le_of_ble_eq_true rfl⟩ (fun rz w1 H locs hpo hP hD hS => ?_)
    obtain ⟨rfl, rfl⟩ := hpo
    obtain ⟨hP, hD⟩ := nx (ws' := [(m0, .inr (5, [.ref m1, .ref m2, .ref m3, .int (nI kp), .ref m4, .ref m5, .ref m6, .ref m7, .ref m8, .int (nI rn), .ref m9, .int (nI tn), .int (nI ia), .int (nI wl), .ref m10, .ref m11, .ref m12, .int (nI si), .ref m13, .ref m14])), (m2, .inl (eI g, 49, .inl (fun j => nI (S j))))]) hP hD [0, 1] (ndB_ok _ rfl) rfl
    refine xge (tgt := 29) hx hb dX5_giveBy_22 (by decide) (by have := faS_b2 (p := lpB S) hO.1 (show i ≤ 40 by omega) hO.2.2.2.2.2.1; omega) (by have := faS_b2 (p := lpB S) hO.1 (show b ≤ 40 by omega) hO.2.2.2.2.2.1; omega) (fun c22 => ?_) (fun c22 => ?_)
    · skip
      refine lv_iload_n hx hb dX5_giveBy_29 rfl (lv_at hl 2 rfl) ?_
      refine lv_istore_n (lv' := [(2, .int (nI b)), (0, .ref m0), (1, .ref m2), (3, .int (nI i))]) hx hb dX5_giveBy_30 rfl hl (by decide) rfl (fun ls hl => ?_)
      refine lv_iinc (v := (nI (i + 1))) (lv' := [(3, .int (nI (i + 1))), (2, .int (nI b)), (0, .ref m0), (1, .ref m2)]) hx hb dX5_giveBy_31 hl (k := 3) rfl (iincP i 1) (by decide) rfl (fun ls hl => ?_)
      refine lv_goto (tgt := 4) hx hb dX5_giveBy_34 (by decide) ?_
      exact ih4 (i + 1, b) (show b = am (fun v => ((faS S (lpB S) v * S 45 : Nat) : Int)) ((i + 1) - 1) ∧ 2 ≤ (i + 1) ∧ (i + 1) ≤ 41 from (⟨am_old (by omega) hb0 (by exact_mod_cast c22), by omega, by omega⟩)) (show 41 - (i + 1) < 41 - i from (by omega)) _ _ _ hP hD hS (lv_sub hl [2, 3, 1, 0] rfl)
    · skip
      refine lv_iload_n hx hb dX5_giveBy_25 rfl (lv_at hl 3 rfl) ?_
      refine lv_goto (tgt := 30) hx hb dX5_giveBy_26 (by decide) ?_
      refine lv_istore_n (lv' := [(2, .int (nI i)), (0, .ref m0), (1, .ref m2), (3, .int (nI i))]) hx hb dX5_giveBy_30 rfl hl (by decide) rfl (fun ls hl => ?_)
      refine lv_iinc (v := (nI (i + 1))) (lv' := [(3, .int (nI (i + 1))), (2, .int (nI i)), (0, .ref m0), (1, .ref m2)]) hx hb dX5_giveBy_31 hl (k := 3) rfl (iincP i 1) (by decide) rfl (fun ls hl => ?_)
      refine lv_goto (tgt := 4) hx hb dX5_giveBy_34 (by decide) ?_
      exact ih4 (i + 1, i) (show i = am (fun v => ((faS S (lpB S) v * S 45 : Nat) : Int)) ((i + 1) - 1) ∧ 2 ≤ (i + 1) ∧ (i + 1) ≤ 41 from (⟨am_new (by omega) hb0 (by exact_mod_cast c22), by omega, by omega⟩)) (show 41 - (i + 1) < 41 - i from (by omega)) _ _ _ hP hD hS (lv_sub hl [2, 3, 1, 0] rfl)

set_option maxHeartbeats 4000000 in
set_option maxRecDepth 100000 in
theorem mc_X5_part (l : Launch) (g : EE) (m0 : Nat) (m1 : Nat) (m2 : Nat) (m3 : Nat) (m4 : Nat) (m5 : Nat) (m6 : Nat) (m7 : Nat) (m8 : Nat) (m9 : Nat) (m10 : Nat) (m11 : Nat) (m12 : Nat) (m13 : Nat) (m14 : Nat) (kp : Nat) (rn : Nat) (tn : Nat) (ia : Nat) (wl : Nat) (si : Nat) (S : Nat → Nat) (O : Nat → Int32) (Y : Nat → Nat) (Z : Nat → Nat) (M : Nat → Nat) (v : Nat) (hO : okS S) (hM : ∀ j, j ≤ 40 → M j ≤ 9) (hv : v ≤ 40) : CV l yX5_part wsX5_part ({ frames := 4, cells := 0, slots := 0, locals := 90 }) g [.ref m0, .ref m7, .int (nI v)] [(m0, .inr (5, [.ref m1, .ref m2, .ref m3, .int (nI kp), .ref m4, .ref m5, .ref m6, .ref m7, .ref m8, .int (nI rn), .ref m9, .int (nI tn), .int (nI ia), .int (nI wl), .ref m10, .ref m11, .ref m12, .int (nI si), .ref m13, .ref m14])), (m2, .inl (eI g, 49, .inl (fun j => nI (S j)))), (m4, .inl (eI g, 41, .inl O)), (m5, .inl (eI g, 9, .inl (fun j => nI (Y j)))), (m6, .inl (eI g, 9, .inl (fun j => nI (Z j)))), (m7, .inl (eI g, 49, .inl (fun j => nI (M j))))] (fun (wz : va_W) => wz = [(m0, .inr (5, [.ref m1, .ref m2, .ref m3, .int (nI kp), .ref m4, .ref m5, .ref m6, .ref m7, .ref m8, .int (nI rn), .ref m9, .int (nI tn), .int (nI ia), .int (nI wl), .ref m10, .ref m11, .ref m12, .int (nI si), .ref m13, .ref m14])), (m2, .inl (eI g, 49, .inl (fun j => nI (S j)))), (m4, .inl (eI g, 41, .inl (ofF O M (tlS S) v 40))), (m5, .inl (eI g, 9, .inl (fun j => nI ((myF S M v) j)))), (m6, .inl (eI g, 9, .inl (fun j => nI ((weF S M v) j)))), (m7, .inl (eI g, 49, .inl (fun j => nI (M j))))]) 0 0 := by
  refine ctV (cc := cX5_part) (maxL := 4) (ret := none) (by decide) rfl (Nat.le_of_ble_eq_true rfl) ?_
  intro p_ e_ s_ m_ bl_ mt_ cd_ A ls F hnm hP hD hS hl
  obtain ⟨hx, hb, hml, hown, hts, hK, hX, hA, hrt_, hlocks⟩ := id F
  have hl : lv_has ls 4 [(0, .ref m0), (1, .ref m7), (2, .int (nI v))] := hl
  refine lv_iconst (v := (nI 0)) hx hb dX5_part_0 (by decide) ?_
  refine lv_istore_n (lv' := [(3, .int (nI 0)), (0, .ref m0), (1, .ref m7), (2, .int (nI v))]) hx hb dX5_part_1 rfl hl (by decide) rfl (fun ls hl => ?_)
  refine xlo (σ := Nat × (Nat → Nat) × (Nat → Nat)) 4 (fun xz_ => (fun (k : Nat) (y : Nat → Nat) (z : Nat → Nat) => [(0, .ref m0), (1, .ref m7), (2, .int (nI v)), (3, .int (nI k))]) xz_.1 xz_.2.1 xz_.2.2) (fun xz_ => (fun (k : Nat) (y : Nat → Nat) (z : Nat → Nat) => [(m0, .inr (5, [.ref m1, .ref m2, .ref m3, .int (nI kp), .ref m4, .ref m5, .ref m6, .ref m7, .ref m8, .int (nI rn), .ref m9, .int (nI tn), .int (nI ia), .int (nI wl), .ref m10, .ref m11, .ref m12, .int (nI si), .ref m13, .ref m14])), (m2, .inl (eI g, 49, .inl (fun j => nI (S j)))), (m4, .inl (eI g, 41, .inl O)), (m5, .inl (eI g, 9, .inl (fun j => nI (y j)))), (m6, .inl (eI g, 9, .inl (fun j => nI (z j)))), (m7, .inl (eI g, 49, .inl (fun j => nI (M j))))]) xz_.1 xz_.2.1 xz_.2.2) (fun xz_ => (fun (k : Nat) (y : Nat → Nat) (z : Nat → Nat) => (∀ j, j < k → y j = 0) ∧ (∀ j, j < k → z j = 0) ∧ k ≤ 9) xz_.1 xz_.2.1 xz_.2.2) (fun xz_ => (fun (k : Nat) (y : Nat → Nat) (z : Nat → Nat) => 9 - k) xz_.1 xz_.2.1 xz_.2.2) (fun xz_ hI ih2 H locs ls hP hD hS hl => ?_) (0, Y, Z) (show (∀ j, j < 0 → Y j = 0) ∧ (∀ j, j < 0 → Z j = 0) ∧ 0 ≤ 9 from (⟨fun j hj => by omega, fun j hj => by omega, by omega⟩)) hP hD hS (lv_sub hl [1, 2, 3, 0] rfl)
  obtain ⟨k, y, z⟩ := xz_
  have hP : va_P (eD g) vwCl [(m0, .inr (5, [.ref m1, .ref m2, .ref m3, .int (nI kp), .ref m4, .ref m5, .ref m6, .ref m7, .ref m8, .int (nI rn), .ref m9, .int (nI tn), .int (nI ia), .int (nI wl), .ref m10, .ref m11, .ref m12, .int (nI si), .ref m13, .ref m14])), (m2, .inl (eI g, 49, .inl (fun j => nI (S j)))), (m4, .inl (eI g, 41, .inl O)), (m5, .inl (eI g, 9, .inl (fun j => nI (y j)))), (m6, .inl (eI g, 9, .inl (fun j => nI (z j)))), (m7, .inl (eI g, 49, .inl (fun j => nI (M j))))] H := hP
  have hD : va_D A [(m0, .inr (5, [.ref m1, .ref m2, .ref m3, .int (nI kp), .ref m4, .ref m5, .ref m6, .ref m7, .ref m8, .int (nI rn), .ref m9, .int (nI tn), .int (nI ia), .int (nI wl), .ref m10, .ref m11, .ref m12, .int (nI si), .ref m13, .ref m14])), (m2, .inl (eI g, 49, .inl (fun j => nI (S j)))), (m4, .inl (eI g, 41, .inl O)), (m5, .inl (eI g, 9, .inl (fun j => nI (y j)))), (m6, .inl (eI g, 9, .inl (fun j => nI (z j)))), (m7, .inl (eI g, 49, .inl (fun j => nI (M j))))] := hD
  have hl : lv_has ls 4 [(0, .ref m0), (1, .ref m7), (2, .int (nI v)), (3, .int (nI k))] := hl
  have hI2 : (∀ j, j < k → y j = 0) ∧ (∀ j, j < k → z j = 0) ∧ k ≤ 9 := hI
  clear hI
  obtain ⟨hy, hz, hk⟩ := id hI2
  refine lv_iload_n hx hb dX5_part_2 rfl (lv_at hl 3 rfl) ?_
  refine lv_bipush (v := (nI 8)) hx hb dX5_part_3 (by decide) ?_
  refine xgt (tgt := 28) hx hb dX5_part_5 (by decide) (by omega) (by omega) (fun c5 => ?_) (fun c5 => ?_)
  · skip
    obtain ⟨hP, hD⟩ := recN (f' := fun j => nI ((fun _ => 0) j)) hP hD 3 rfl (fun j hj => congrArg nI (hy j (by omega)))
    have hP : va_P (eD g) vwCl [(m0, .inr (5, [.ref m1, .ref m2, .ref m3, .int (nI kp), .ref m4, .ref m5, .ref m6, .ref m7, .ref m8, .int (nI rn), .ref m9, .int (nI tn), .int (nI ia), .int (nI wl), .ref m10, .ref m11, .ref m12, .int (nI si), .ref m13, .ref m14])), (m2, .inl (eI g, 49, .inl (fun j => nI (S j)))), (m4, .inl (eI g, 41, .inl O)), (m5, .inl (eI g, 9, .inl (fun j => nI ((fun _ => 0) j)))), (m6, .inl (eI g, 9, .inl (fun j => nI (z j)))), (m7, .inl (eI g, 49, .inl (fun j => nI (M j))))] H := hP
    have hD : va_D A [(m0, .inr (5, [.ref m1, .ref m2, .ref m3, .int (nI kp), .ref m4, .ref m5, .ref m6, .ref m7, .ref m8, .int (nI rn), .ref m9, .int (nI tn), .int (nI ia), .int (nI wl), .ref m10, .ref m11, .ref m12, .int (nI si), .ref m13, .ref m14])), (m2, .inl (eI g, 49, .inl (fun j => nI (S j)))), (m4, .inl (eI g, 41, .inl O)), (m5, .inl (eI g, 9, .inl (fun j => nI ((fun _ => 0) j)))), (m6, .inl (eI g, 9, .inl (fun j => nI (z j)))), (m7, .inl (eI g, 49, .inl (fun j => nI (M j))))] := hD
    obtain ⟨hP, hD⟩ := recN (f' := fun j => nI ((fun _ => 0) j)) hP hD 4 rfl (fun j hj => congrArg nI (hz j (by omega)))
    have hP : va_P (eD g) vwCl [(m0, .inr (5, [.ref m1, .ref m2, .ref m3, .int (nI kp), .ref m4, .ref m5, .ref m6, .ref m7, .ref m8, .int (nI rn), .ref m9, .int (nI tn), .int (nI ia), .int (nI wl), .ref m10, .ref m11, .ref m12, .int (nI si), .ref m13, .ref m14])), (m2, .inl (eI g, 49, .inl (fun j => nI (S j)))), (m4, .inl (eI g, 41, .inl O)), (m5, .inl (eI g, 9, .inl (fun j => nI ((fun _ => 0) j)))), (m6, .inl (eI g, 9, .inl (fun j => nI ((fun _ => 0) j)))), (m7, .inl (eI g, 49, .inl (fun j => nI (M j))))] H := hP
    have hD : va_D A [(m0, .inr (5, [.ref m1, .ref m2, .ref m3, .int (nI kp), .ref m4, .ref m5, .ref m6, .ref m7, .ref m8, .int (nI rn), .ref m9, .int (nI tn), .int (nI ia), .int (nI wl), .ref m10, .ref m11, .ref m12, .int (nI si), .ref m13, .ref m14])), (m2, .inl (eI g, 49, .inl (fun j => nI (S j)))), (m4, .inl (eI g, 41, .inl O)), (m5, .inl (eI g, 9, .inl (fun j => nI ((fun _ => 0) j)))), (m6, .inl (eI g, 9, .inl (fun j => nI ((fun _ => 0) j)))), (m7, .inl (eI g, 49, .inl (fun j => nI (M j))))] := hD
    refine lv_iconst (v := (nI 1)) hx hb dX5_part_28 (by decide) ?_
    refine lv_istore_n (lv' := [(3, .int (nI 1)), (0, .ref m0), (1, .ref m7), (2, .int (nI v))]) hx hb dX5_part_29 rfl hl (by decide) rfl (fun ls hl => ?_)
    refine xlo (σ := Nat × (Nat → Int32) × (Nat → Nat) × (Nat → Nat)) 4 (fun xz_ => (fun (i : Nat) (o : Nat → Int32) (y2 : Nat → Nat) (z2 : Nat → Nat) => [(0, .ref m0), (1, .ref m7), (2, .int (nI v)), (3, .int (nI i))]) xz_.1 xz_.2.1 xz_.2.2.1 xz_.2.2.2) (fun xz_ => (fun (i : Nat) (o : Nat → Int32) (y2 : Nat → Nat) (z2 : Nat → Nat) => [(m0, .inr (5, [.ref m1, .ref m2, .ref m3, .int (nI kp), .ref m4, .ref m5, .ref m6, .ref m7, .ref m8, .int (nI rn), .ref m9, .int (nI tn), .int (nI ia), .int (nI wl), .ref m10, .ref m11, .ref m12, .int (nI si), .ref m13, .ref m14])), (m2, .inl (eI g, 49, .inl (fun j => nI (S j)))), (m4, .inl (eI g, 41, .inl o)), (m5, .inl (eI g, 9, .inl (fun j => nI (y2 j)))), (m6, .inl (eI g, 9, .inl (fun j => nI (z2 j)))), (m7, .inl (eI g, 49, .inl (fun j => nI (M j))))]) xz_.1 xz_.2.1 xz_.2.2.1 xz_.2.2.2) (fun xz_ => (fun (i : Nat) (o : Nat → Int32) (y2 : Nat → Nat) (z2 : Nat → Nat) => o = ofF O M (tlS S) v (i - 1) ∧ y2 = cnN M (tlS S) v (i - 1) ∧ z2 = weN M (tlS S) v (i - 1) ∧ 1 ≤ i ∧ i ≤ 41) xz_.1 xz_.2.1 xz_.2.2.1 xz_.2.2.2) (fun xz_ => (fun (i : Nat) (o : Nat → Int32) (y2 : Nat → Nat) (z2 : Nat → Nat) => 41 - i) xz_.1 xz_.2.1 xz_.2.2.1 xz_.2.2.2) (fun xz_ hI ih30 H locs ls hP hD hS hl => ?_) (1, O, (fun _ => 0), (fun _ => 0)) (show O = ofF O M (tlS S) v (1 - 1) ∧ (fun _ => 0) = cnN M (tlS S) v (1 - 1) ∧ (fun _ => 0) = weN M (tlS S) v (1 - 1) ∧ 1 ≤ 1 ∧ 1 ≤ 41 from (⟨ofF_0.symm, rfl, rfl, by omega, by omega⟩)) hP hD hS (lv_sub hl [1, 2, 3, 0] rfl)
    obtain ⟨i, o, y2, z2⟩ := xz_
    have hP : va_P (eD g) vwCl [(m0, .inr (5, [.ref m1, .ref m2, .ref m3, .int (nI kp), .ref m4, .ref m5, .ref m6, .ref m7, .ref m8, .int (nI rn), .ref m9, .int (nI tn), .int (nI ia), .int (nI wl), .ref m10, .ref m11, .ref m12, .int (nI si), .ref m13, .ref m14])), (m2, .inl (eI g, 49, .inl (fun j => nI (S j)))), (m4, .inl (eI g, 41, .inl o)), (m5, .inl (eI g, 9, .inl (fun j => nI (y2 j)))), (m6, .inl (eI g, 9, .inl (fun j => nI (z2 j)))), (m7, .inl (eI g, 49, .inl (fun j => nI (M j))))] H := hP
    have hD : va_D A [(m0, .inr (5, [.ref m1, .ref m2, .ref m3, .int (nI kp), .ref m4, .ref m5, .ref m6, .ref m7, .ref m8, .int (nI rn), .ref m9, .int (nI tn), .int (nI ia), .int (nI wl), .ref m10, .ref m11, .ref m12, .int (nI si), .ref m13, .ref m14])), (m2, .inl (eI g, 49, .inl (fun j => nI (S j)))), (m4, .inl (eI g, 41, .inl o)), (m5, .inl (eI g, 9, .inl (fun j => nI (y2 j)))), (m6, .inl (eI g, 9, .inl (fun j => nI (z2 j)))), (m7, .inl (eI g, 49, .inl (fun j => nI (M j))))] := hD
    have hl : lv_has ls 4 [(0, .ref m0), (1, .ref m7), (2, .int (nI v)), (3, .int (nI i))] := hl
    have hI30 : o = ofF O M (tlS S) v (i - 1) ∧ y2 = cnN M (tlS S) v (i - 1) ∧ z2 = weN M (tlS S) v (i - 1) ∧ 1 ≤ i ∧ i ≤ 41 := hI
    clear hI
    obtain ⟨ho, hy2, hz2, hi1, hi2⟩ := id hI30
    refine lv_iload_n hx hb dX5_part_30 rfl (lv_at hl 3 rfl) ?_
    refine lv_bipush (v := (nI 40)) hx hb dX5_part_31 (by decide) ?_
    refine xgt (tgt := 100) hx hb dX5_part_33 (by decide) (by omega) (by omega) (fun c33 => ?_) (fun c33 => ?_)
    · skip
      exact rtV F hP hD hS dX5_part_100 (by rw [ho, hy2, hz2, show i - 1 = 40 by omega, cnN_40, weN_40]; rfl)
    · skip
      refine lv_aload_n hx hb dX5_part_36 rfl (lv_at hl 0 rfl) ?_
      refine xget F hP inX5_part_X5 0 rfl rfl 4 (by decide) lkX5_part_3 rfl dX5_part_37 ?_
      refine lv_iload_n hx hb dX5_part_40 rfl (lv_at hl 3 rfl) ?_
      refine lv_bipush (v := (-9)) hx hb dX5_part_41 (by decide) ?_
      refine xast F hP hD hS 2 (f' := (upd o i (-9))) rfl (by omega) (by omega) (rfl) dX5_part_43 (fun H locs hP hD hS => ?_)
      have hP : va_P (eD g) vwCl [(m0, .inr (5, [.ref m1, .ref m2, .ref m3, .int (nI kp), .ref m4, .ref m5, .ref m6, .ref m7, .ref m8, .int (nI rn), .ref m9, .int (nI tn), .int (nI ia), .int (nI wl), .ref m10, .ref m11, .ref m12, .int (nI si), .ref m13, .ref m14])), (m2, .inl (eI g, 49, .inl (fun j => nI (S j)))), (m4, .inl (eI g, 41, .inl (upd o i (-9)))), (m5, .inl (eI g, 9, .inl (fun j => nI (y2 j)))), (m6, .inl (eI g, 9, .inl (fun j => nI (z2 j)))), (m7, .inl (eI g, 49, .inl (fun j => nI (M j))))] H := hP
      have hD : va_D A [(m0, .inr (5, [.ref m1, .ref m2, .ref m3, .int (nI kp), .ref m4, .ref m5, .ref m6, .ref m7, .ref m8, .int (nI rn), .ref m9, .int (nI tn), .int (nI ia), .int (nI wl), .ref m10, .ref m11, .ref m12, .int (nI si), .ref m13, .ref m14])), (m2, .inl (eI g, 49, .inl (fun j => nI (S j)))), (m4, .inl (eI g, 41, .inl (upd o i (-9)))), (m5, .inl (eI g, 9, .inl (fun j => nI (y2 j)))), (m6, .inl (eI g, 9, .inl (fun j => nI (z2 j)))), (m7, .inl (eI g, 49, .inl (fun j => nI (M j))))] := hD
      refine lv_aload_n hx hb dX5_part_44 rfl (lv_at hl 1 rfl) ?_
      refine lv_iload_n hx hb dX5_part_45 rfl (lv_at hl 3 rfl) ?_
      refine xald F hP 5 (v := (nI (M i))) rfl (by omega) (by omega) rfl dX5_part_46 ?_
      have hbd1 := hM (i) (by omega)
      refine zle (tgt := 94) hx hb dX5_part_47 (by decide) (by omega) (fun c47 => ?_) (fun c47 => ?_)
      · skip
        refine lv_iinc (v := (nI (i + 1))) (lv' := [(3, .int (nI (i + 1))), (0, .ref m0), (1, .ref m7), (2, .int (nI v))]) hx hb dX5_part_94 hl (k := 3) rfl (iincP i 1) (by decide) rfl (fun ls hl => ?_)
        refine lv_goto (tgt := 30) hx hb dX5_part_97 (by decide) ?_
        exact ih30 (i + 1, (upd o i (-9)), y2, z2) (show (upd o i (-9)) = ofF O M (tlS S) v ((i + 1) - 1) ∧ y2 = cnN M (tlS S) v ((i + 1) - 1) ∧ z2 = weN M (tlS S) v ((i + 1) - 1) ∧ 1 ≤ (i + 1) ∧ (i + 1) ≤ 41 from (⟨by rw [ho]; exact ofF_step (by omega) (if_pos c47).symm, by rw [hy2]; exact cnN_skip (by omega) c47, by rw [hz2]; exact weN_skip (by omega) c47, by omega, by omega⟩)) (show 41 - (i + 1) < 41 - i from (by omega)) _ _ _ hP hD hS (lv_sub hl [1, 2, 3, 0] rfl)
      · skip
        refine lv_aload_n hx hb dX5_part_50 rfl (lv_at hl 0 rfl) ?_
        refine xget F hP inX5_part_X5 0 rfl rfl 4 (by decide) lkX5_part_3 rfl dX5_part_51 ?_
        refine lv_iload_n hx hb dX5_part_54 rfl (lv_at hl 3 rfl) ?_
        refine lv_aload_n hx hb dX5_part_55 rfl (lv_at hl 0 rfl) ?_
        refine lv_iload_n hx hb dX5_part_56 rfl (lv_at hl 2 rfl) ?_
        refine lv_iload_n hx hb dX5_part_57 rfl (lv_at hl 3 rfl) ?_
        refine cVI (As := [.int (nI v), .int (nI i)]) (rest := [.int (nI i), .ref m4]) F (c_X5_tells l g m0 m1 m2 m3 m4 m5 m6 m7 m8 m9 m10 m11 m12 m13 m14 kp rn tn ia wl si S v i (hO) (hv) (by omega)) kX5_tells rfl gX5_part_X5_tells rfl rfl ⟨Nat.le_of_ble_eq_true rfl, Nat.le_of_ble_eq_true rfl⟩ hP hD hS [0, 1] [2, 3, 4, 5] rfl rfl 0 rfl rfl hl.1 rfl rfl (Nat.le_of_ble_eq_true rfl) dX5_part_58 ⟨Nat.le_of_ble_eq_true rfl, Nat.le_of_ble_eq_true rfl⟩ (fun rz w1 H locs hpo hP hD hS => ?_)
        obtain ⟨rfl, rfl⟩ := hpo
        obtain ⟨hP, hD⟩ := nx (ws' := [(m0, .inr (5, [.ref m1, .ref m2, .ref m3, .int (nI kp), .ref m4, .ref m5, .ref m6, .ref m7, .ref m8, .int (nI rn), .ref m9, .int (nI tn), .int (nI ia), .int (nI wl), .ref m10, .ref m11, .ref m12, .int (nI si), .ref m13, .ref m14])), (m2, .inl (eI g, 49, .inl (fun j => nI (S j)))), (m4, .inl (eI g, 41, .inl (upd o i (-9)))), (m5, .inl (eI g, 9, .inl (fun j => nI (y2 j)))), (m6, .inl (eI g, 9, .inl (fun j => nI (z2 j)))), (m7, .inl (eI g, 49, .inl (fun j => nI (M j))))]) hP hD [4, 5, 0, 1, 2, 3] (ndB_ok _ rfl) rfl
        have ht9 := tlS_9 hO v i
        refine xast F hP hD hS 2 (f' := (upd (upd o i (-9)) i (nI (tlS S v i)))) rfl (by omega) (by omega) (rfl) dX5_part_61 (fun H locs hP hD hS => ?_)
        have hP : va_P (eD g) vwCl [(m0, .inr (5, [.ref m1, .ref m2, .ref m3, .int (nI kp), .ref m4, .ref m5, .ref m6, .ref m7, .ref m8, .int (nI rn), .ref m9, .int (nI tn), .int (nI ia), .int (nI wl), .ref m10, .ref m11, .ref m12, .int (nI si), .ref m13, .ref m14])), (m2, .inl (eI g, 49, .inl (fun j => nI (S j)))), (m4, .inl (eI g, 41, .inl (upd (upd o i (-9)) i (nI (tlS S v i))))), (m5, .inl (eI g, 9, .inl (fun j => nI (y2 j)))), (m6, .inl (eI g, 9, .inl (fun j => nI (z2 j)))), (m7, .inl (eI g, 49, .inl (fun j => nI (M j))))] H := hP
        have hD : va_D A [(m0, .inr (5, [.ref m1, .ref m2, .ref m3, .int (nI kp), .ref m4, .ref m5, .ref m6, .ref m7, .ref m8, .int (nI rn), .ref m9, .int (nI tn), .int (nI ia), .int (nI wl), .ref m10, .ref m11, .ref m12, .int (nI si), .ref m13, .ref m14])), (m2, .inl (eI g, 49, .inl (fun j => nI (S j)))), (m4, .inl (eI g, 41, .inl (upd (upd o i (-9)) i (nI (tlS S v i))))), (m5, .inl (eI g, 9, .inl (fun j => nI (y2 j)))), (m6, .inl (eI g, 9, .inl (fun j => nI (z2 j)))), (m7, .inl (eI g, 49, .inl (fun j => nI (M j))))] := hD
        refine lv_aload_n hx hb dX5_part_62 rfl (lv_at hl 0 rfl) ?_
        refine xget F hP inX5_part_X5 0 rfl rfl 5 (by decide) lkX5_part_1 rfl dX5_part_63 ?_
        refine lv_aload_n hx hb dX5_part_66 rfl (lv_at hl 0 rfl) ?_
        refine xget F hP inX5_part_X5 0 rfl rfl 4 (by decide) lkX5_part_3 rfl dX5_part_67 ?_
        refine lv_iload_n hx hb dX5_part_70 rfl (lv_at hl 3 rfl) ?_
        refine xald F hP 2 (v := ((upd (upd o i (-9)) i (nI (tlS S v i))) i)) rfl (by omega) (by omega) rfl dX5_part_71 ?_
        refine sti (show ((upd (upd o i (-9)) i (nI (tlS S v i))) i) = nI (tlS S v i) from upd_at _ _ _) ?_
        refine lv_dup2_11 hx hb dX5_part_72 rfl rfl ?_
        refine xald F hP 3 (v := (nI (y2 (tlS S v i)))) rfl (by omega) (by omega) rfl dX5_part_73 ?_
        refine lv_iconst (v := (nI 1)) hx hb dX5_part_74 (by decide) ?_
        refine xadd hx hb dX5_part_75 ?_
        refine xast F hP hD hS 3 (f' := fun j => nI ((updN y2 (tlS S v i) ((y2 (tlS S v i)) + 1)) j)) rfl (by omega) (by omega) (upd_nI y2 (tlS S v i) ((y2 (tlS S v i)) + 1)) dX5_part_76 (fun H locs hP hD hS => ?_)
        have hP : va_P (eD g) vwCl [(m0, .inr (5, [.ref m1, .ref m2, .ref m3, .int (nI kp), .ref m4, .ref m5, .ref m6, .ref m7, .ref m8, .int (nI rn), .ref m9, .int (nI tn), .int (nI ia), .int (nI wl), .ref m10, .ref m11, .ref m12, .int (nI si), .ref m13, .ref m14])), (m2, .inl (eI g, 49, .inl (fun j => nI (S j)))), (m4, .inl (eI g, 41, .inl (upd (upd o i (-9)) i (nI (tlS S v i))))), (m5, .inl (eI g, 9, .inl (fun j => nI ((updN y2 (tlS S v i) ((y2 (tlS S v i)) + 1)) j)))), (m6, .inl (eI g, 9, .inl (fun j => nI (z2 j)))), (m7, .inl (eI g, 49, .inl (fun j => nI (M j))))] H := hP
        have hD : va_D A [(m0, .inr (5, [.ref m1, .ref m2, .ref m3, .int (nI kp), .ref m4, .ref m5, .ref m6, .ref m7, .ref m8, .int (nI rn), .ref m9, .int (nI tn), .int (nI ia), .int (nI wl), .ref m10, .ref m11, .ref m12, .int (nI si), .ref m13, .ref m14])), (m2, .inl (eI g, 49, .inl (fun j => nI (S j)))), (m4, .inl (eI g, 41, .inl (upd (upd o i (-9)) i (nI (tlS S v i))))), (m5, .inl (eI g, 9, .inl (fun j => nI ((updN y2 (tlS S v i) ((y2 (tlS S v i)) + 1)) j)))), (m6, .inl (eI g, 9, .inl (fun j => nI (z2 j)))), (m7, .inl (eI g, 49, .inl (fun j => nI (M j))))] := hD
        refine lv_aload_n hx hb dX5_part_77 rfl (lv_at hl 0 rfl) ?_
        refine xget F hP inX5_part_X5 0 rfl rfl 6 (by decide) lkX5_part_2 rfl dX5_part_78 ?_
        refine lv_aload_n hx hb dX5_part_81 rfl (lv_at hl 0 rfl) ?_
        refine xget F hP inX5_part_X5 0 rfl rfl 4 (by decide) lkX5_part_3 rfl dX5_part_82 ?_
        refine lv_iload_n hx hb dX5_part_85 rfl (lv_at hl 3 rfl) ?_
        refine xald F hP 2 (v := ((upd (upd o i (-9)) i (nI (tlS S v i))) i)) rfl (by omega) (by omega) rfl dX5_part_86 ?_
        refine sti (show ((upd (upd o i (-9)) i (nI (tlS S v i))) i) = nI (tlS S v i) from upd_at _ _ _) ?_
        refine lv_dup2_11 hx hb dX5_part_87 rfl rfl ?_
        refine xald F hP 4 (v := (nI (z2 (tlS S v i)))) rfl (by omega) (by omega) rfl dX5_part_88 ?_
        refine lv_aload_n hx hb dX5_part_89 rfl (lv_at hl 1 rfl) ?_
        refine lv_iload_n hx hb dX5_part_90 rfl (lv_at hl 3 rfl) ?_
        refine xald F hP 5 (v := (nI (M i))) rfl (by omega) (by omega) rfl dX5_part_91 ?_
        have hbd3 := hM (i) (by omega)
        refine xadd hx hb dX5_part_92 ?_
        refine xast F hP hD hS 4 (f' := fun j => nI ((updN z2 (tlS S v i) ((z2 (tlS S v i)) + (M i))) j)) rfl (by omega) (by omega) (upd_nI z2 (tlS S v i) ((z2 (tlS S v i)) + (M i))) dX5_part_93 (fun H locs hP hD hS => ?_)
        have hP : va_P (eD g) vwCl [(m0, .inr (5, [.ref m1, .ref m2, .ref m3, .int (nI kp), .ref m4, .ref m5, .ref m6, .ref m7, .ref m8, .int (nI rn), .ref m9, .int (nI tn), .int (nI ia), .int (nI wl), .ref m10, .ref m11, .ref m12, .int (nI si), .ref m13, .ref m14])), (m2, .inl (eI g, 49, .inl (fun j => nI (S j)))), (m4, .inl (eI g, 41, .inl (upd (upd o i (-9)) i (nI (tlS S v i))))), (m5, .inl (eI g, 9, .inl (fun j => nI ((updN y2 (tlS S v i) ((y2 (tlS S v i)) + 1)) j)))), (m6, .inl (eI g, 9, .inl (fun j => nI ((updN z2 (tlS S v i) ((z2 (tlS S v i)) + (M i))) j)))), (m7, .inl (eI g, 49, .inl (fun j => nI (M j))))] H := hP
        have hD : va_D A [(m0, .inr (5, [.ref m1, .ref m2, .ref m3, .int (nI kp), .ref m4, .ref m5, .ref m6, .ref m7, .ref m8, .int (nI rn), .ref m9, .int (nI tn), .int (nI ia), .int (nI wl), .ref m10, .ref m11, .ref m12, .int (nI si), .ref m13, .ref m14])), (m2, .inl (eI g, 49, .inl (fun j => nI (S j)))), (m4, .inl (eI g, 41, .inl (upd (upd o i (-9)) i (nI (tlS S v i))))), (m5, .inl (eI g, 9, .inl (fun j => nI ((updN y2 (tlS S v i) ((y2 (tlS S v i)) + 1)) j)))), (m6, .inl (eI g, 9, .inl (fun j => nI ((updN z2 (tlS S v i) ((z2 (tlS S v i)) + (M i))) j)))), (m7, .inl (eI g, 49, .inl (fun j => nI (M j))))] := hD
        refine lv_iinc (v := (nI (i + 1))) (lv' := [(3, .int (nI (i + 1))), (0, .ref m0), (1, .ref m7), (2, .int (nI v))]) hx hb dX5_part_94 hl (k := 3) rfl (iincP i 1) (by decide) rfl (fun ls hl => ?_)
        refine lv_goto (tgt := 30) hx hb dX5_part_97 (by decide) ?_
        exact ih30 (i + 1, (upd (upd o i (-9)) i (nI (tlS S v i))), (updN y2 (tlS S v i) ((y2 (tlS S v i)) + 1)), (updN z2 (tlS S v i) ((z2 (tlS S v i)) + (M i)))) (show (upd (upd o i (-9)) i (nI (tlS S v i))) = ofF O M (tlS S) v ((i + 1) - 1) ∧ (updN y2 (tlS S v i) ((y2 (tlS S v i)) + 1)) = cnN M (tlS S) v ((i + 1) - 1) ∧ (updN z2 (tlS S v i) ((z2 (tlS S v i)) + (M i))) = weN M (tlS S) v ((i + 1) - 1) ∧ 1 ≤ (i + 1) ∧ (i + 1) ≤ 41 from (⟨by rw [ho, upd_upd]; exact ofF_step (by omega) (if_neg c47).symm, by rw [hy2]; exact cnN_step (by omega) c47, by rw [hz2]; exact weN_step (by omega) c47, by omega, by omega⟩)) (show 41 - (i + 1) < 41 - i from (by omega)) _ _ _ hP hD hS (lv_sub hl [1, 2, 3, 0] rfl)
  · skip
    refine lv_aload_n hx hb dX5_part_8 rfl (lv_at hl 0 rfl) ?_
    refine xget F hP inX5_part_X5 0 rfl rfl 5 (by decide) lkX5_part_1 rfl dX5_part_9 ?_
    refine lv_iload_n hx hb dX5_part_12 rfl (lv_at hl 3 rfl) ?_
    refine lv_iconst (v := (nI 0)) hx hb dX5_part_13 (by decide) ?_
    refine xast F hP hD hS 3 (f' := fun j => nI ((updN y k 0) j)) rfl (by omega) (by omega) (upd_nI y k 0) dX5_part_14 (fun H locs hP hD hS => ?_)
    have hP : va_P (eD g) vwCl [(m0, .inr (5, [.ref m1, .ref m2, .ref m3, .int (nI kp), .ref m4, .ref m5, .ref m6, .ref m7, .ref m8, .int (nI rn), .ref m9, .int (nI tn), .int (nI ia), .int (nI wl), .ref m10, .ref m11, .ref m12, .int (nI si), .ref m13, .ref m14])), (m2, .inl (eI g, 49, .inl (fun j => nI (S j)))), (m4, .inl (eI g, 41, .inl O)), (m5, .inl (eI g, 9, .inl (fun j => nI ((updN y k 0) j)))), (m6, .inl (eI g, 9, .inl (fun j => nI (z j)))), (m7, .inl (eI g, 49, .inl (fun j => nI (M j))))] H := hP
    have hD : va_D A [(m0, .inr (5, [.ref m1, .ref m2, .ref m3, .int (nI kp), .ref m4, .ref m5, .ref m6, .ref m7, .ref m8, .int (nI rn), .ref m9, .int (nI tn), .int (nI ia), .int (nI wl), .ref m10, .ref m11, .ref m12, .int (nI si), .ref m13, .ref m14])), (m2, .inl (eI g, 49, .inl (fun j => nI (S j)))), (m4, .inl (eI g, 41, .inl O)), (m5, .inl (eI g, 9, .inl (fun j => nI ((updN y k 0) j)))), (m6, .inl (eI g, 9, .inl (fun j => nI (z j)))), (m7, .inl (eI g, 49, .inl (fun j => nI (M j))))] := hD
    refine lv_aload_n hx hb dX5_part_15 rfl (lv_at hl 0 rfl) ?_
    refine xget F hP inX5_part_X5 0 rfl rfl 6 (by decide) lkX5_part_2 rfl dX5_part_16 ?_
    refine lv_iload_n hx hb dX5_part_19 rfl (lv_at hl 3 rfl) ?_
    refine lv_iconst (v := (nI 0)) hx hb dX5_part_20 (by decide) ?_
    refine xast F hP hD hS 4 (f' := fun j => nI ((updN z k 0) j)) rfl (by omega) (by omega) (upd_nI z k 0) dX5_part_21 (fun H locs hP hD hS => ?_)
    have hP : va_P (eD g) vwCl [(m0, .inr (5, [.ref m1, .ref m2, .ref m3, .int (nI kp), .ref m4, .ref m5, .ref m6, .ref m7, .ref m8, .int (nI rn), .ref m9, .int (nI tn), .int (nI ia), .int (nI wl), .ref m10, .ref m11, .ref m12, .int (nI si), .ref m13, .ref m14])), (m2, .inl (eI g, 49, .inl (fun j => nI (S j)))), (m4, .inl (eI g, 41, .inl O)), (m5, .inl (eI g, 9, .inl (fun j => nI ((updN y k 0) j)))), (m6, .inl (eI g, 9, .inl (fun j => nI ((updN z k 0) j)))), (m7, .inl (eI g, 49, .inl (fun j => nI (M j))))] H := hP
    have hD : va_D A [(m0, .inr (5, [.ref m1, .ref m2, .ref m3, .int (nI kp), .ref m4, .ref m5, .ref m6, .ref m7, .ref m8, .int (nI rn), .ref m9, .int (nI tn), .int (nI ia), .int (nI wl), .ref m10, .ref m11, .ref m12, .int (nI si), .ref m13, .ref m14])), (m2, .inl (eI g, 49, .inl (fun j => nI (S j)))), (m4, .inl (eI g, 41, .inl O)), (m5, .inl (eI g, 9, .inl (fun j => nI ((updN y k 0) j)))), (m6, .inl (eI g, 9, .inl (fun j => nI ((updN z k 0) j)))), (m7, .inl (eI g, 49, .inl (fun j => nI (M j))))] := hD
    refine lv_iinc (v := (nI (k + 1))) (lv' := [(3, .int (nI (k + 1))), (0, .ref m0), (1, .ref m7), (2, .int (nI v))]) hx hb dX5_part_22 hl (k := 3) rfl (iincP k 1) (by decide) rfl (fun ls hl => ?_)
    refine lv_goto (tgt := 2) hx hb dX5_part_25 (by decide) ?_
    exact ih2 (k + 1, (updN y k 0), (updN z k 0)) (show (∀ j, j < (k + 1) → (updN y k 0) j = 0) ∧ (∀ j, j < (k + 1) → (updN z k 0) j = 0) ∧ (k + 1) ≤ 9 from (⟨z_step hy, z_step hz, by omega⟩)) (show 9 - (k + 1) < 9 - k from (by omega)) _ _ _ hP hD hS (lv_sub hl [1, 2, 3, 0] rfl)

set_option maxHeartbeats 4000000 in
set_option maxRecDepth 100000 in
theorem mc_X5_tries (l : Launch) (g : EE) (m0 : Nat) (m1 : Nat) (m2 : Nat) (m3 : Nat) (m4 : Nat) (m5 : Nat) (m6 : Nat) (m7 : Nat) (m8 : Nat) (m9 : Nat) (m10 : Nat) (m11 : Nat) (m12 : Nat) (m13 : Nat) (m14 : Nat) (kp : Nat) (rn : Nat) (tn : Nat) (ia : Nat) (wl : Nat) (si : Nat) (S : Nat → Nat) (O : Nat → Int32) (Y : Nat → Nat) (Z : Nat → Nat) (M : Nat → Nat) (v : Nat) (k : Nat) (hO : okS S) (hM : ∀ j, j ≤ 40 → M j ≤ 9) (hv : v ≤ 40) (hk : k < 9) : CI l yX5_tries wsX5_tries ({ frames := 5, cells := 0, slots := 0, locals := 113 }) g [.ref m0, .ref m7, .int (nI v), .int (nI k)] [(m0, .inr (5, [.ref m1, .ref m2, .ref m3, .int (nI kp), .ref m4, .ref m5, .ref m6, .ref m7, .ref m8, .int (nI rn), .ref m9, .int (nI tn), .int (nI ia), .int (nI wl), .ref m10, .ref m11, .ref m12, .int (nI si), .ref m13, .ref m14])), (m2, .inl (eI g, 49, .inl (fun j => nI (S j)))), (m4, .inl (eI g, 41, .inl O)), (m5, .inl (eI g, 9, .inl (fun j => nI (Y j)))), (m6, .inl (eI g, 9, .inl (fun j => nI (Z j)))), (m7, .inl (eI g, 49, .inl (fun j => nI (M j))))] (fun (rz : Int32) (wz : va_W) => ∃ O9 : Nat → Int32, ∃ Y9 : Nat → Nat, ∃ Z9 : Nat → Nat, rz = (nI (if cnS (prt (tlS S) (lpB M) v k) ≠ 0 then 1 else 0)) ∧ wz = [(m0, .inr (5, [.ref m1, .ref m2, .ref m3, .int (nI kp), .ref m4, .ref m5, .ref m6, .ref m7, .ref m8, .int (nI rn), .ref m9, .int (nI tn), .int (nI ia), .int (nI wl), .ref m10, .ref m11, .ref m12, .int (nI si), .ref m13, .ref m14])), (m2, .inl (eI g, 49, .inl (fun j => nI (S j)))), (m4, .inl (eI g, 41, .inl O9)), (m5, .inl (eI g, 9, .inl (fun j => nI (Y9 j)))), (m6, .inl (eI g, 9, .inl (fun j => nI (Z9 j)))), (m7, .inl (eI g, 49, .inl (fun j => nI ((if cnS (prt (tlS S) (lpB M) v k) ≠ 0 then cutN M (prt (tlS S) (lpB M) v k) 40 else M) j))))]) 0 0 := by
  refine ctI (cc := cX5_tries) (maxL := 5) (ret := (some .boolean)) (by decide) rfl (Nat.le_of_ble_eq_true rfl) ?_
  intro p_ e_ s_ m_ bl_ mt_ cd_ A ls F hnm hP hD hS hl
  obtain ⟨hx, hb, hml, hown, hts, hK, hX, hA, hrt_, hlocks⟩ := id F
  have hl : lv_has ls 5 [(0, .ref m0), (1, .ref m7), (2, .int (nI v)), (3, .int (nI k))] := hl
  refine lv_aload_n hx hb dX5_tries_0 rfl (lv_at hl 0 rfl) ?_
  refine lv_aload_n hx hb dX5_tries_1 rfl (lv_at hl 1 rfl) ?_
  refine lv_iload_n hx hb dX5_tries_2 rfl (lv_at hl 2 rfl) ?_
  refine cVV (As := [.ref m7, .int (nI v)]) (rest := []) F (mc_X5_part l g m0 m1 m2 m3 m4 m5 m6 m7 m8 m9 m10 m11 m12 m13 m14 kp rn tn ia wl si S O Y Z M v (hO) (hM) (hv)) kX5_part rfl gX5_tries_X5_part rfl rfl ⟨Nat.le_of_ble_eq_true rfl, Nat.le_of_ble_eq_true rfl⟩ hP hD hS [0, 1, 2, 3, 4, 5] [] rfl rfl 0 rfl rfl hl.1 rfl rfl (Nat.le_of_ble_eq_true rfl) dX5_tries_3 ⟨Nat.le_of_ble_eq_true rfl, Nat.le_of_ble_eq_true rfl⟩ (fun w1 H locs hpo hP hD hS => ?_)
  subst hpo
  obtain ⟨hP, hD⟩ := nx (ws' := [(m0, .inr (5, [.ref m1, .ref m2, .ref m3, .int (nI kp), .ref m4, .ref m5, .ref m6, .ref m7, .ref m8, .int (nI rn), .ref m9, .int (nI tn), .int (nI ia), .int (nI wl), .ref m10, .ref m11, .ref m12, .int (nI si), .ref m13, .ref m14])), (m2, .inl (eI g, 49, .inl (fun j => nI (S j)))), (m4, .inl (eI g, 41, .inl (ofF O M (tlS S) v 40))), (m5, .inl (eI g, 9, .inl (fun j => nI ((myF S M v) j)))), (m6, .inl (eI g, 9, .inl (fun j => nI ((weF S M v) j)))), (m7, .inl (eI g, 49, .inl (fun j => nI (M j))))]) hP hD [0, 1, 2, 3, 4, 5] (ndB_ok _ rfl) rfl
  refine lv_aload_n hx hb dX5_tries_6 rfl (lv_at hl 0 rfl) ?_
  refine xget F hP inX5_tries_X5 0 rfl rfl 5 (by decide) lkX5_tries_1 rfl dX5_tries_7 ?_
  refine lv_iload_n hx hb dX5_tries_10 rfl (lv_at hl 3 rfl) ?_
  refine xald F hP 3 (v := (nI ((myF S M v) k))) rfl (by omega) (by omega) rfl dX5_tries_11 ?_
  refine zne (tgt := 17) hx hb dX5_tries_12 (by decide) (by have := cnS_le (prt (tlS S) (lpB M) v k); unfold myF; omega) (fun c12 => ?_) (fun c12 => ?_)
  · skip
    refine lv_iconst (v := (nI 1)) hx hb dX5_tries_17 (by decide) ?_
    refine lv_istore (lv' := [(4, .int (nI 1)), (0, .ref m0), (1, .ref m7), (2, .int (nI v)), (3, .int (nI k))]) hx hb dX5_tries_18 hl (by decide) rfl (fun ls hl => ?_)
    refine xlo (σ := Nat × (Nat → Nat)) 5 (fun xz_ => (fun (i : Nat) (V : Nat → Nat) => [(0, .ref m0), (1, .ref m7), (2, .int (nI v)), (3, .int (nI k)), (4, .int (nI i))]) xz_.1 xz_.2) (fun xz_ => (fun (i : Nat) (V : Nat → Nat) => [(m0, .inr (5, [.ref m1, .ref m2, .ref m3, .int (nI kp), .ref m4, .ref m5, .ref m6, .ref m7, .ref m8, .int (nI rn), .ref m9, .int (nI tn), .int (nI ia), .int (nI wl), .ref m10, .ref m11, .ref m12, .int (nI si), .ref m13, .ref m14])), (m2, .inl (eI g, 49, .inl (fun j => nI (S j)))), (m4, .inl (eI g, 41, .inl (ofF O M (tlS S) v 40))), (m5, .inl (eI g, 9, .inl (fun j => nI ((myF S M v) j)))), (m6, .inl (eI g, 9, .inl (fun j => nI ((weF S M v) j)))), (m7, .inl (eI g, 49, .inl (fun j => nI (V j))))]) xz_.1 xz_.2) (fun xz_ => (fun (i : Nat) (V : Nat → Nat) => V = cutN M (prt (tlS S) (lpB M) v k) (i - 1) ∧ 1 ≤ i ∧ i ≤ 41) xz_.1 xz_.2) (fun xz_ => (fun (i : Nat) (V : Nat → Nat) => 41 - i) xz_.1 xz_.2) (fun xz_ hI ih20 H locs ls hP hD hS hl => ?_) (1, M) (show M = cutN M (prt (tlS S) (lpB M) v k) (1 - 1) ∧ 1 ≤ 1 ∧ 1 ≤ 41 from (⟨(cutN_0 _ _).symm, by omega, by omega⟩)) hP hD hS (lv_sub hl [1, 2, 3, 4, 0] rfl)
    obtain ⟨i, V⟩ := xz_
    have hP : va_P (eD g) vwCl [(m0, .inr (5, [.ref m1, .ref m2, .ref m3, .int (nI kp), .ref m4, .ref m5, .ref m6, .ref m7, .ref m8, .int (nI rn), .ref m9, .int (nI tn), .int (nI ia), .int (nI wl), .ref m10, .ref m11, .ref m12, .int (nI si), .ref m13, .ref m14])), (m2, .inl (eI g, 49, .inl (fun j => nI (S j)))), (m4, .inl (eI g, 41, .inl (ofF O M (tlS S) v 40))), (m5, .inl (eI g, 9, .inl (fun j => nI ((myF S M v) j)))), (m6, .inl (eI g, 9, .inl (fun j => nI ((weF S M v) j)))), (m7, .inl (eI g, 49, .inl (fun j => nI (V j))))] H := hP
    have hD : va_D A [(m0, .inr (5, [.ref m1, .ref m2, .ref m3, .int (nI kp), .ref m4, .ref m5, .ref m6, .ref m7, .ref m8, .int (nI rn), .ref m9, .int (nI tn), .int (nI ia), .int (nI wl), .ref m10, .ref m11, .ref m12, .int (nI si), .ref m13, .ref m14])), (m2, .inl (eI g, 49, .inl (fun j => nI (S j)))), (m4, .inl (eI g, 41, .inl (ofF O M (tlS S) v 40))), (m5, .inl (eI g, 9, .inl (fun j => nI ((myF S M v) j)))), (m6, .inl (eI g, 9, .inl (fun j => nI ((weF S M v) j)))), (m7, .inl (eI g, 49, .inl (fun j => nI (V j))))] := hD
    have hl : lv_has ls 5 [(0, .ref m0), (1, .ref m7), (2, .int (nI v)), (3, .int (nI k)), (4, .int (nI i))] := hl
    have hI20 : V = cutN M (prt (tlS S) (lpB M) v k) (i - 1) ∧ 1 ≤ i ∧ i ≤ 41 := hI
    clear hI
    obtain ⟨hV, hi1, hi2⟩ := id hI20
    refine lv_iload hx hb dX5_tries_20 (lv_at hl 4 rfl) ?_
    refine lv_bipush (v := (nI 40)) hx hb dX5_tries_22 (by decide) ?_
    refine xgt (tgt := 56) hx hb dX5_tries_24 (by decide) (by omega) (by omega) (fun c24 => ?_) (fun c24 => ?_)
    · skip
      refine lv_iconst (v := (nI 1)) hx hb dX5_tries_56 (by decide) ?_
      exact rtZ F hP hD hS dX5_tries_57 (rfl) (⟨_, _, _, by rw [if_pos (show cnS (prt (tlS S) (lpB M) v k) ≠ 0 from c12)], by rw [if_pos (show cnS (prt (tlS S) (lpB M) v k) ≠ 0 from c12), hV, show i - 1 = 40 by omega]⟩)
    · skip
      refine lv_aload_n hx hb dX5_tries_27 rfl (lv_at hl 1 rfl) ?_
      refine lv_iload hx hb dX5_tries_28 (lv_at hl 4 rfl) ?_
      refine lv_aload_n hx hb dX5_tries_30 rfl (lv_at hl 0 rfl) ?_
      refine xget F hP inX5_tries_X5 0 rfl rfl 4 (by decide) lkX5_tries_2 rfl dX5_tries_31 ?_
      refine lv_iload hx hb dX5_tries_34 (lv_at hl 4 rfl) ?_
      refine xald F hP 2 (v := ((ofF O M (tlS S) v 40) i)) rfl (by omega) (by omega) rfl dX5_tries_36 ?_
      refine lv_iload_n hx hb dX5_tries_37 rfl (lv_at hl 3 rfl) ?_
      refine yne (tgt := 48) hx hb dX5_tries_38 (by decide) (by omega) (fun c38 => ?_) (fun c38 => ?_)
      · skip
        refine lv_iconst (v := (nI 0)) hx hb dX5_tries_48 (by decide) ?_
        refine xast F hP hD hS 5 (f' := fun j => nI ((updN V i 0) j)) rfl (by omega) (by omega) (upd_nI V i 0) dX5_tries_49 (fun H locs hP hD hS => ?_)
        have hP : va_P (eD g) vwCl [(m0, .inr (5, [.ref m1, .ref m2, .ref m3, .int (nI kp), .ref m4, .ref m5, .ref m6, .ref m7, .ref m8, .int (nI rn), .ref m9, .int (nI tn), .int (nI ia), .int (nI wl), .ref m10, .ref m11, .ref m12, .int (nI si), .ref m13, .ref m14])), (m2, .inl (eI g, 49, .inl (fun j => nI (S j)))), (m4, .inl (eI g, 41, .inl (ofF O M (tlS S) v 40))), (m5, .inl (eI g, 9, .inl (fun j => nI ((myF S M v) j)))), (m6, .inl (eI g, 9, .inl (fun j => nI ((weF S M v) j)))), (m7, .inl (eI g, 49, .inl (fun j => nI ((updN V i 0) j))))] H := hP
        have hD : va_D A [(m0, .inr (5, [.ref m1, .ref m2, .ref m3, .int (nI kp), .ref m4, .ref m5, .ref m6, .ref m7, .ref m8, .int (nI rn), .ref m9, .int (nI tn), .int (nI ia), .int (nI wl), .ref m10, .ref m11, .ref m12, .int (nI si), .ref m13, .ref m14])), (m2, .inl (eI g, 49, .inl (fun j => nI (S j)))), (m4, .inl (eI g, 41, .inl (ofF O M (tlS S) v 40))), (m5, .inl (eI g, 9, .inl (fun j => nI ((myF S M v) j)))), (m6, .inl (eI g, 9, .inl (fun j => nI ((weF S M v) j)))), (m7, .inl (eI g, 49, .inl (fun j => nI ((updN V i 0) j))))] := hD
        refine lv_iinc (v := (nI (i + 1))) (lv' := [(4, .int (nI (i + 1))), (0, .ref m0), (1, .ref m7), (2, .int (nI v)), (3, .int (nI k))]) hx hb dX5_tries_50 hl (k := 4) rfl (iincP i 1) (by decide) rfl (fun ls hl => ?_)
        refine lv_goto (tgt := 20) hx hb dX5_tries_53 (by decide) ?_
        exact ih20 (i + 1, (updN V i 0)) (show (updN V i 0) = cutN M (prt (tlS S) (lpB M) v k) ((i + 1) - 1) ∧ 1 ≤ (i + 1) ∧ (i + 1) ≤ 41 from (⟨by rw [hV]; exact cut_zero1 (by omega) (by simpa using mt (ofk hi1 (by omega) (tlS_9 hO v i)).mpr c38), by omega, by omega⟩)) (show 41 - (i + 1) < 41 - i from (by omega)) _ _ _ hP hD hS (lv_sub hl [1, 2, 3, 4, 0] rfl)
      · skip
        refine lv_aload_n hx hb dX5_tries_41 rfl (lv_at hl 1 rfl) ?_
        refine lv_iload hx hb dX5_tries_42 (lv_at hl 4 rfl) ?_
        refine xald F hP 5 (v := (nI (V i))) rfl (by omega) (by omega) rfl dX5_tries_44 ?_
        refine lv_goto (tgt := 49) hx hb dX5_tries_45 (by decide) ?_
        refine xast F hP hD hS 5 (f' := fun j => nI ((updN V i (V i)) j)) rfl (by omega) (by omega) (upd_nI V i (V i)) dX5_tries_49 (fun H locs hP hD hS => ?_)
        have hP : va_P (eD g) vwCl [(m0, .inr (5, [.ref m1, .ref m2, .ref m3, .int (nI kp), .ref m4, .ref m5, .ref m6, .ref m7, .ref m8, .int (nI rn), .ref m9, .int (nI tn), .int (nI ia), .int (nI wl), .ref m10, .ref m11, .ref m12, .int (nI si), .ref m13, .ref m14])), (m2, .inl (eI g, 49, .inl (fun j => nI (S j)))), (m4, .inl (eI g, 41, .inl (ofF O M (tlS S) v 40))), (m5, .inl (eI g, 9, .inl (fun j => nI ((myF S M v) j)))), (m6, .inl (eI g, 9, .inl (fun j => nI ((weF S M v) j)))), (m7, .inl (eI g, 49, .inl (fun j => nI ((updN V i (V i)) j))))] H := hP
        have hD : va_D A [(m0, .inr (5, [.ref m1, .ref m2, .ref m3, .int (nI kp), .ref m4, .ref m5, .ref m6, .ref m7, .ref m8, .int (nI rn), .ref m9, .int (nI tn), .int (nI ia), .int (nI wl), .ref m10, .ref m11, .ref m12, .int (nI si), .ref m13, .ref m14])), (m2, .inl (eI g, 49, .inl (fun j => nI (S j)))), (m4, .inl (eI g, 41, .inl (ofF O M (tlS S) v 40))), (m5, .inl (eI g, 9, .inl (fun j => nI ((myF S M v) j)))), (m6, .inl (eI g, 9, .inl (fun j => nI ((weF S M v) j)))), (m7, .inl (eI g, 49, .inl (fun j => nI ((updN V i (V i)) j))))] := hD
        refine lv_iinc (v := (nI (i + 1))) (lv' := [(4, .int (nI (i + 1))), (0, .ref m0), (1, .ref m7), (2, .int (nI v)), (3, .int (nI k))]) hx hb dX5_tries_50 hl (k := 4) rfl (iincP i 1) (by decide) rfl (fun ls hl => ?_)
        refine lv_goto (tgt := 20) hx hb dX5_tries_53 (by decide) ?_
        exact ih20 (i + 1, (updN V i (V i))) (show (updN V i (V i)) = cutN M (prt (tlS S) (lpB M) v k) ((i + 1) - 1) ∧ 1 ≤ (i + 1) ∧ (i + 1) ≤ 41 from (⟨by rw [hV]; exact cut_on (by omega) ((ofk hi1 (by omega) (tlS_9 hO v i)).mp c38), by omega, by omega⟩)) (show 41 - (i + 1) < 41 - i from (by omega)) _ _ _ hP hD hS (lv_sub hl [1, 2, 3, 4, 0] rfl)
  · skip
    refine lv_iconst (v := (nI 0)) hx hb dX5_tries_15 (by decide) ?_
    exact rtZ F hP hD hS dX5_tries_16 (rfl) (⟨_, _, _, by rw [if_neg (fun z => z c12)], by rw [if_neg (fun z => z c12)]⟩)

set_option maxHeartbeats 4000000 in
set_option maxRecDepth 100000 in
theorem mc_X5_partsOf (l : Launch) (g : EE) (m0 : Nat) (m1 : Nat) (m2 : Nat) (m3 : Nat) (m4 : Nat) (m5 : Nat) (m6 : Nat) (m7 : Nat) (m8 : Nat) (m9 : Nat) (m10 : Nat) (m11 : Nat) (m12 : Nat) (m13 : Nat) (m14 : Nat) (kp : Nat) (rn : Nat) (tn : Nat) (ia : Nat) (wl : Nat) (si : Nat) (S : Nat → Nat) (O : Nat → Int32) (Y : Nat → Nat) (Z : Nat → Nat) (M : Nat → Nat) (v : Nat) (hO : okS S) (hM : ∀ j, j ≤ 40 → M j ≤ 9) (hv : v ≤ 40) : CI l yX5_partsOf wsX5_partsOf ({ frames := 5, cells := 0, slots := 0, locals := 113 }) g [.ref m0, .ref m7, .int (nI v)] [(m0, .inr (5, [.ref m1, .ref m2, .ref m3, .int (nI kp), .ref m4, .ref m5, .ref m6, .ref m7, .ref m8, .int (nI rn), .ref m9, .int (nI tn), .int (nI ia), .int (nI wl), .ref m10, .ref m11, .ref m12, .int (nI si), .ref m13, .ref m14])), (m2, .inl (eI g, 49, .inl (fun j => nI (S j)))), (m4, .inl (eI g, 41, .inl O)), (m5, .inl (eI g, 9, .inl (fun j => nI (Y j)))), (m6, .inl (eI g, 9, .inl (fun j => nI (Z j)))), (m7, .inl (eI g, 49, .inl (fun j => nI (M j))))] (fun (rz : Int32) (wz : va_W) => ∃ O9 : Nat → Int32, ∃ Y9 : Nat → Nat, ∃ Z9 : Nat → Nat, rz = (nI (paS (tlS S) (lpB M) v)) ∧ wz = [(m0, .inr (5, [.ref m1, .ref m2, .ref m3, .int (nI kp), .ref m4, .ref m5, .ref m6, .ref m7, .ref m8, .int (nI rn), .ref m9, .int (nI tn), .int (nI ia), .int (nI wl), .ref m10, .ref m11, .ref m12, .int (nI si), .ref m13, .ref m14])), (m2, .inl (eI g, 49, .inl (fun j => nI (S j)))), (m4, .inl (eI g, 41, .inl O9)), (m5, .inl (eI g, 9, .inl (fun j => nI (Y9 j)))), (m6, .inl (eI g, 9, .inl (fun j => nI (Z9 j)))), (m7, .inl (eI g, 49, .inl (fun j => nI (M j))))]) 0 0 := by
  refine ctI (cc := cX5_partsOf) (maxL := 5) (ret := (some .int)) (by decide) rfl (Nat.le_of_ble_eq_true rfl) ?_
  intro p_ e_ s_ m_ bl_ mt_ cd_ A ls F hnm hP hD hS hl
  obtain ⟨hx, hb, hml, hown, hts, hK, hX, hA, hrt_, hlocks⟩ := id F
  have hl : lv_has ls 5 [(0, .ref m0), (1, .ref m7), (2, .int (nI v))] := hl
  have hmb : ∀ j, myF S M v j ≤ 40 := fun j => cnS_le _
  refine lv_aload_n hx hb dX5_partsOf_0 rfl (lv_at hl 0 rfl) ?_
  refine lv_aload_n hx hb dX5_partsOf_1 rfl (lv_at hl 1 rfl) ?_
  refine lv_iload_n hx hb dX5_partsOf_2 rfl (lv_at hl 2 rfl) ?_
  refine cVV (As := [.ref m7, .int (nI v)]) (rest := []) F (mc_X5_part l g m0 m1 m2 m3 m4 m5 m6 m7 m8 m9 m10 m11 m12 m13 m14 kp rn tn ia wl si S O Y Z M v (hO) (hM) (hv)) kX5_part rfl gX5_partsOf_X5_part rfl rfl ⟨Nat.le_of_ble_eq_true rfl, Nat.le_of_ble_eq_true rfl⟩ hP hD hS [0, 1, 2, 3, 4, 5] [] rfl rfl 0 rfl rfl hl.1 rfl rfl (Nat.le_of_ble_eq_true rfl) dX5_partsOf_3 ⟨Nat.le_of_ble_eq_true rfl, Nat.le_of_ble_eq_true rfl⟩ (fun w1 H locs hpo hP hD hS => ?_)
  subst hpo
  obtain ⟨hP, hD⟩ := nx (ws' := [(m0, .inr (5, [.ref m1, .ref m2, .ref m3, .int (nI kp), .ref m4, .ref m5, .ref m6, .ref m7, .ref m8, .int (nI rn), .ref m9, .int (nI tn), .int (nI ia), .int (nI wl), .ref m10, .ref m11, .ref m12, .int (nI si), .ref m13, .ref m14])), (m2, .inl (eI g, 49, .inl (fun j => nI (S j)))), (m4, .inl (eI g, 41, .inl (ofF O M (tlS S) v 40))), (m5, .inl (eI g, 9, .inl (fun j => nI ((myF S M v) j)))), (m6, .inl (eI g, 9, .inl (fun j => nI ((weF S M v) j)))), (m7, .inl (eI g, 49, .inl (fun j => nI (M j))))]) hP hD [0, 1, 2, 3, 4, 5] (ndB_ok _ rfl) rfl
  refine lv_iconst (v := (nI 0)) hx hb dX5_partsOf_6 (by decide) ?_
  refine lv_istore_n (lv' := [(3, .int (nI 0)), (0, .ref m0), (1, .ref m7), (2, .int (nI v))]) hx hb dX5_partsOf_7 rfl hl (by decide) rfl (fun ls hl => ?_)
  refine lv_iconst (v := (nI 0)) hx hb dX5_partsOf_8 (by decide) ?_
  refine lv_istore (lv' := [(4, .int (nI 0)), (3, .int (nI 0)), (0, .ref m0), (1, .ref m7), (2, .int (nI v))]) hx hb dX5_partsOf_9 hl (by decide) rfl (fun ls hl => ?_)
  refine xlo (σ := Nat × Nat) 5 (fun xz_ => (fun (k : Nat) (a : Nat) => [(0, .ref m0), (1, .ref m7), (2, .int (nI v)), (3, .int (nI a)), (4, .int (nI k))]) xz_.1 xz_.2) (fun xz_ => (fun (k : Nat) (a : Nat) => [(m0, .inr (5, [.ref m1, .ref m2, .ref m3, .int (nI kp), .ref m4, .ref m5, .ref m6, .ref m7, .ref m8, .int (nI rn), .ref m9, .int (nI tn), .int (nI ia), .int (nI wl), .ref m10, .ref m11, .ref m12, .int (nI si), .ref m13, .ref m14])), (m2, .inl (eI g, 49, .inl (fun j => nI (S j)))), (m4, .inl (eI g, 41, .inl (ofF O M (tlS S) v 40))), (m5, .inl (eI g, 9, .inl (fun j => nI ((myF S M v) j)))), (m6, .inl (eI g, 9, .inl (fun j => nI ((weF S M v) j)))), (m7, .inl (eI g, 49, .inl (fun j => nI (M j))))]) xz_.1 xz_.2) (fun xz_ => (fun (k : Nat) (a : Nat) => a = sz (fun z_ => if cnS (prt (tlS S) (lpB M) v z_) = 0 then 0 else 1) k ∧ k ≤ 9) xz_.1 xz_.2) (fun xz_ => (fun (k : Nat) (a : Nat) => 9 - k) xz_.1 xz_.2) (fun xz_ hI ih11 H locs ls hP hD hS hl => ?_) (0, 0) (show 0 = sz (fun z_ => if cnS (prt (tlS S) (lpB M) v z_) = 0 then 0 else 1) 0 ∧ 0 ≤ 9 from (⟨rfl, by omega⟩)) hP hD hS (lv_sub hl [2, 3, 4, 1, 0] rfl)
  obtain ⟨k, a⟩ := xz_
  have hP : va_P (eD g) vwCl [(m0, .inr (5, [.ref m1, .ref m2, .ref m3, .int (nI kp), .ref m4, .ref m5, .ref m6, .ref m7, .ref m8, .int (nI rn), .ref m9, .int (nI tn), .int (nI ia), .int (nI wl), .ref m10, .ref m11, .ref m12, .int (nI si), .ref m13, .ref m14])), (m2, .inl (eI g, 49, .inl (fun j => nI (S j)))), (m4, .inl (eI g, 41, .inl (ofF O M (tlS S) v 40))), (m5, .inl (eI g, 9, .inl (fun j => nI ((myF S M v) j)))), (m6, .inl (eI g, 9, .inl (fun j => nI ((weF S M v) j)))), (m7, .inl (eI g, 49, .inl (fun j => nI (M j))))] H := hP
  have hD : va_D A [(m0, .inr (5, [.ref m1, .ref m2, .ref m3, .int (nI kp), .ref m4, .ref m5, .ref m6, .ref m7, .ref m8, .int (nI rn), .ref m9, .int (nI tn), .int (nI ia), .int (nI wl), .ref m10, .ref m11, .ref m12, .int (nI si), .ref m13, .ref m14])), (m2, .inl (eI g, 49, .inl (fun j => nI (S j)))), (m4, .inl (eI g, 41, .inl (ofF O M (tlS S) v 40))), (m5, .inl (eI g, 9, .inl (fun j => nI ((myF S M v) j)))), (m6, .inl (eI g, 9, .inl (fun j => nI ((weF S M v) j)))), (m7, .inl (eI g, 49, .inl (fun j => nI (M j))))] := hD
  have hl : lv_has ls 5 [(0, .ref m0), (1, .ref m7), (2, .int (nI v)), (3, .int (nI a)), (4, .int (nI k))] := hl
  have hI11 : a = sz (fun z_ => if cnS (prt (tlS S) (lpB M) v z_) = 0 then 0 else 1) k ∧ k ≤ 9 := hI
  clear hI
  obtain ⟨ha, hk⟩ := id hI11
  refine lv_iload hx hb dX5_partsOf_11 (lv_at hl 4 rfl) ?_
  refine lv_bipush (v := (nI 8)) hx hb dX5_partsOf_13 (by decide) ?_
  refine xgt (tgt := 42) hx hb dX5_partsOf_15 (by decide) (by omega) (by omega) (fun c15 => ?_) (fun c15 => ?_)
  · skip
    refine lv_iload_n hx hb dX5_partsOf_42 rfl (lv_at hl 3 rfl) ?_
    exact rtI F hP hD hS dX5_partsOf_43 (⟨_, _, _, by rw [ha, show k = 9 by omega]; rfl, rfl⟩)
  · skip
    refine lv_iload_n hx hb dX5_partsOf_18 rfl (lv_at hl 3 rfl) ?_
    refine lv_aload_n hx hb dX5_partsOf_19 rfl (lv_at hl 0 rfl) ?_
    refine xget F hP inX5_partsOf_X5 0 rfl rfl 5 (by decide) lkX5_partsOf_1 rfl dX5_partsOf_20 ?_
    refine lv_iload hx hb dX5_partsOf_23 (lv_at hl 4 rfl) ?_
    refine xald F hP 3 (v := (nI ((myF S M v) k))) rfl (by omega) (by omega) rfl dX5_partsOf_25 ?_
    have hbd2 := hmb (k)
    refine zle (tgt := 33) hx hb dX5_partsOf_26 (by decide) (by omega) (fun c26 => ?_) (fun c26 => ?_)
    · skip
      refine lv_iconst (v := (nI 0)) hx hb dX5_partsOf_33 (by decide) ?_
      refine xadd hx hb dX5_partsOf_34 ?_
      refine lv_istore_n (lv' := [(3, .int (nI (a + 0))), (0, .ref m0), (1, .ref m7), (2, .int (nI v)), (4, .int (nI k))]) hx hb dX5_partsOf_35 rfl hl (by decide) rfl (fun ls hl => ?_)
      refine lv_iinc (v := (nI (k + 1))) (lv' := [(4, .int (nI (k + 1))), (3, .int (nI (a + 0))), (0, .ref m0), (1, .ref m7), (2, .int (nI v))]) hx hb dX5_partsOf_36 hl (k := 4) rfl (iincP k 1) (by decide) rfl (fun ls hl => ?_)
      refine lv_goto (tgt := 11) hx hb dX5_partsOf_39 (by decide) ?_
      exact ih11 (k + 1, a + 0) (show (a + 0) = sz (fun z_ => if cnS (prt (tlS S) (lpB M) v z_) = 0 then 0 else 1) (k + 1) ∧ (k + 1) ≤ 9 from (⟨by rw [ha]; exact (pa_skip c26).symm, by omega⟩)) (show 9 - (k + 1) < 9 - k from (by omega)) _ _ _ hP hD hS (lv_sub hl [2, 3, 4, 1, 0] rfl)
    · skip
      refine lv_iconst (v := (nI 1)) hx hb dX5_partsOf_29 (by decide) ?_
      refine lv_goto (tgt := 34) hx hb dX5_partsOf_30 (by decide) ?_
      refine xadd hx hb dX5_partsOf_34 ?_
      refine lv_istore_n (lv' := [(3, .int (nI (a + 1))), (0, .ref m0), (1, .ref m7), (2, .int (nI v)), (4, .int (nI k))]) hx hb dX5_partsOf_35 rfl hl (by decide) rfl (fun ls hl => ?_)
      refine lv_iinc (v := (nI (k + 1))) (lv' := [(4, .int (nI (k + 1))), (3, .int (nI (a + 1))), (0, .ref m0), (1, .ref m7), (2, .int (nI v))]) hx hb dX5_partsOf_36 hl (k := 4) rfl (iincP k 1) (by decide) rfl (fun ls hl => ?_)
      refine lv_goto (tgt := 11) hx hb dX5_partsOf_39 (by decide) ?_
      exact ih11 (k + 1, a + 1) (show (a + 1) = sz (fun z_ => if cnS (prt (tlS S) (lpB M) v z_) = 0 then 0 else 1) (k + 1) ∧ (k + 1) ≤ 9 from (⟨by rw [ha]; exact (pa_step c26).symm, by omega⟩)) (show 9 - (k + 1) < 9 - k from (by omega)) _ _ _ hP hD hS (lv_sub hl [2, 3, 4, 1, 0] rfl)

set_option maxHeartbeats 4000000 in
set_option maxRecDepth 100000 in
theorem mc_X5_worstOf (l : Launch) (g : EE) (m0 : Nat) (m1 : Nat) (m2 : Nat) (m3 : Nat) (m4 : Nat) (m5 : Nat) (m6 : Nat) (m7 : Nat) (m8 : Nat) (m9 : Nat) (m10 : Nat) (m11 : Nat) (m12 : Nat) (m13 : Nat) (m14 : Nat) (kp : Nat) (rn : Nat) (tn : Nat) (ia : Nat) (wl : Nat) (si : Nat) (S : Nat → Nat) (O : Nat → Int32) (Y : Nat → Nat) (Z : Nat → Nat) (M : Nat → Nat) (v : Nat) (hO : okS S) (hM : ∀ j, j ≤ 40 → M j ≤ 9) (hv : v ≤ 40) : CI l yX5_worstOf wsX5_worstOf ({ frames := 5, cells := 0, slots := 0, locals := 113 }) g [.ref m0, .ref m7, .int (nI v)] [(m0, .inr (5, [.ref m1, .ref m2, .ref m3, .int (nI kp), .ref m4, .ref m5, .ref m6, .ref m7, .ref m8, .int (nI rn), .ref m9, .int (nI tn), .int (nI ia), .int (nI wl), .ref m10, .ref m11, .ref m12, .int (nI si), .ref m13, .ref m14])), (m2, .inl (eI g, 49, .inl (fun j => nI (S j)))), (m4, .inl (eI g, 41, .inl O)), (m5, .inl (eI g, 9, .inl (fun j => nI (Y j)))), (m6, .inl (eI g, 9, .inl (fun j => nI (Z j)))), (m7, .inl (eI g, 49, .inl (fun j => nI (M j))))] (fun (rz : Int32) (wz : va_W) => ∃ O9 : Nat → Int32, ∃ Y9 : Nat → Nat, ∃ Z9 : Nat → Nat, rz = (nI (woS (tlS S) (lpB M) v)) ∧ wz = [(m0, .inr (5, [.ref m1, .ref m2, .ref m3, .int (nI kp), .ref m4, .ref m5, .ref m6, .ref m7, .ref m8, .int (nI rn), .ref m9, .int (nI tn), .int (nI ia), .int (nI wl), .ref m10, .ref m11, .ref m12, .int (nI si), .ref m13, .ref m14])), (m2, .inl (eI g, 49, .inl (fun j => nI (S j)))), (m4, .inl (eI g, 41, .inl O9)), (m5, .inl (eI g, 9, .inl (fun j => nI (Y9 j)))), (m6, .inl (eI g, 9, .inl (fun j => nI (Z9 j)))), (m7, .inl (eI g, 49, .inl (fun j => nI (M j))))]) 0 0 := by
  refine ctI (cc := cX5_worstOf) (maxL := 5) (ret := (some .int)) (by decide) rfl (Nat.le_of_ble_eq_true rfl) ?_
  intro p_ e_ s_ m_ bl_ mt_ cd_ A ls F hnm hP hD hS hl
  obtain ⟨hx, hb, hml, hown, hts, hK, hX, hA, hrt_, hlocks⟩ := id F
  have hl : lv_has ls 5 [(0, .ref m0), (1, .ref m7), (2, .int (nI v))] := hl
  have hmb : ∀ j, myF S M v j ≤ 40 := fun j => cnS_le _
  refine lv_aload_n hx hb dX5_worstOf_0 rfl (lv_at hl 0 rfl) ?_
  refine lv_aload_n hx hb dX5_worstOf_1 rfl (lv_at hl 1 rfl) ?_
  refine lv_iload_n hx hb dX5_worstOf_2 rfl (lv_at hl 2 rfl) ?_
  refine cVV (As := [.ref m7, .int (nI v)]) (rest := []) F (mc_X5_part l g m0 m1 m2 m3 m4 m5 m6 m7 m8 m9 m10 m11 m12 m13 m14 kp rn tn ia wl si S O Y Z M v (hO) (hM) (hv)) kX5_part rfl gX5_worstOf_X5_part rfl rfl ⟨Nat.le_of_ble_eq_true rfl, Nat.le_of_ble_eq_true rfl⟩ hP hD hS [0, 1, 2, 3, 4, 5] [] rfl rfl 0 rfl rfl hl.1 rfl rfl (Nat.le_of_ble_eq_true rfl) dX5_worstOf_3 ⟨Nat.le_of_ble_eq_true rfl, Nat.le_of_ble_eq_true rfl⟩ (fun w1 H locs hpo hP hD hS => ?_)
  subst hpo
  obtain ⟨hP, hD⟩ := nx (ws' := [(m0, .inr (5, [.ref m1, .ref m2, .ref m3, .int (nI kp), .ref m4, .ref m5, .ref m6, .ref m7, .ref m8, .int (nI rn), .ref m9, .int (nI tn), .int (nI ia), .int (nI wl), .ref m10, .ref m11, .ref m12, .int (nI si), .ref m13, .ref m14])), (m2, .inl (eI g, 49, .inl (fun j => nI (S j)))), (m4, .inl (eI g, 41, .inl (ofF O M (tlS S) v 40))), (m5, .inl (eI g, 9, .inl (fun j => nI ((myF S M v) j)))), (m6, .inl (eI g, 9, .inl (fun j => nI ((weF S M v) j)))), (m7, .inl (eI g, 49, .inl (fun j => nI (M j))))]) hP hD [0, 1, 2, 3, 4, 5] (ndB_ok _ rfl) rfl
  refine lv_iconst (v := (nI 0)) hx hb dX5_worstOf_6 (by decide) ?_
  refine lv_istore_n (lv' := [(3, .int (nI 0)), (0, .ref m0), (1, .ref m7), (2, .int (nI v))]) hx hb dX5_worstOf_7 rfl hl (by decide) rfl (fun ls hl => ?_)
  refine lv_iconst (v := (nI 0)) hx hb dX5_worstOf_8 (by decide) ?_
  refine lv_istore (lv' := [(4, .int (nI 0)), (3, .int (nI 0)), (0, .ref m0), (1, .ref m7), (2, .int (nI v))]) hx hb dX5_worstOf_9 hl (by decide) rfl (fun ls hl => ?_)
  refine xlo (σ := Nat × Nat) 5 (fun xz_ => (fun (k : Nat) (a : Nat) => [(0, .ref m0), (1, .ref m7), (2, .int (nI v)), (3, .int (nI a)), (4, .int (nI k))]) xz_.1 xz_.2) (fun xz_ => (fun (k : Nat) (a : Nat) => [(m0, .inr (5, [.ref m1, .ref m2, .ref m3, .int (nI kp), .ref m4, .ref m5, .ref m6, .ref m7, .ref m8, .int (nI rn), .ref m9, .int (nI tn), .int (nI ia), .int (nI wl), .ref m10, .ref m11, .ref m12, .int (nI si), .ref m13, .ref m14])), (m2, .inl (eI g, 49, .inl (fun j => nI (S j)))), (m4, .inl (eI g, 41, .inl (ofF O M (tlS S) v 40))), (m5, .inl (eI g, 9, .inl (fun j => nI ((myF S M v) j)))), (m6, .inl (eI g, 9, .inl (fun j => nI ((weF S M v) j)))), (m7, .inl (eI g, 49, .inl (fun j => nI (M j))))]) xz_.1 xz_.2) (fun xz_ => (fun (k : Nat) (a : Nat) => a = mz (fun z_ => cnS (prt (tlS S) (lpB M) v z_)) k ∧ k ≤ 9) xz_.1 xz_.2) (fun xz_ => (fun (k : Nat) (a : Nat) => 9 - k) xz_.1 xz_.2) (fun xz_ hI ih11 H locs ls hP hD hS hl => ?_) (0, 0) (show 0 = mz (fun z_ => cnS (prt (tlS S) (lpB M) v z_)) 0 ∧ 0 ≤ 9 from (⟨rfl, by omega⟩)) hP hD hS (lv_sub hl [2, 3, 4, 1, 0] rfl)
  obtain ⟨k, a⟩ := xz_
  have hP : va_P (eD g) vwCl [(m0, .inr (5, [.ref m1, .ref m2, .ref m3, .int (nI kp), .ref m4, .ref m5, .ref m6, .ref m7, .ref m8, .int (nI rn), .ref m9, .int (nI tn), .int (nI ia), .int (nI wl), .ref m10, .ref m11, .ref m12, .int (nI si), .ref m13, .ref m14])), (m2, .inl (eI g, 49, .inl (fun j => nI (S j)))), (m4, .inl (eI g, 41, .inl (ofF O M (tlS S) v 40))), (m5, .inl (eI g, 9, .inl (fun j => nI ((myF S M v) j)))), (m6, .inl (eI g, 9, .inl (fun j => nI ((weF S M v) j)))), (m7, .inl (eI g, 49, .inl (fun j => nI (M j))))] H := hP
  have hD : va_D A [(m0, .inr (5, [.ref m1, .ref m2, .ref m3, .int (nI kp), .ref m4, .ref m5, .ref m6, .ref m7, .ref m8, .int (nI rn), .ref m9, .int (nI tn), .int (nI ia), .int (nI wl), .ref m10, .ref m11, .ref m12, .int (nI si), .ref m13, .ref m14])), (m2, .inl (eI g, 49, .inl (fun j => nI (S j)))), (m4, .inl (eI g, 41, .inl (ofF O M (tlS S) v 40))), (m5, .inl (eI g, 9, .inl (fun j => nI ((myF S M v) j)))), (m6, .inl (eI g, 9, .inl (fun j => nI ((weF S M v) j)))), (m7, .inl (eI g, 49, .inl (fun j => nI (M j))))] := hD
  have hl : lv_has ls 5 [(0, .ref m0), (1, .ref m7), (2, .int (nI v)), (3, .int (nI a)), (4, .int (nI k))] := hl
  have hI11 : a = mz (fun z_ => cnS (prt (tlS S) (lpB M) v z_)) k ∧ k ≤ 9 := hI
  clear hI
  obtain ⟨ha, hk⟩ := id hI11
  have hab : a ≤ 40 := by rw [ha]; exact mz_le k (fun _ _ => cnS_le _)
  refine lv_iload hx hb dX5_worstOf_11 (lv_at hl 4 rfl) ?_
  refine lv_bipush (v := (nI 8)) hx hb dX5_worstOf_13 (by decide) ?_
  refine xgt (tgt := 36) hx hb dX5_worstOf_15 (by decide) (by omega) (by omega) (fun c15 => ?_) (fun c15 => ?_)
  · skip
    refine lv_iload_n hx hb dX5_worstOf_36 rfl (lv_at hl 3 rfl) ?_
    exact rtI F hP hD hS dX5_worstOf_37 (⟨_, _, _, by rw [ha, show k = 9 by omega]; rfl, rfl⟩)
  · skip
    refine lv_iload_n hx hb dX5_worstOf_18 rfl (lv_at hl 3 rfl) ?_
    refine lv_aload_n hx hb dX5_worstOf_19 rfl (lv_at hl 0 rfl) ?_
    refine xget F hP inX5_worstOf_X5 0 rfl rfl 5 (by decide) lkX5_worstOf_1 rfl dX5_worstOf_20 ?_
    refine lv_iload hx hb dX5_worstOf_23 (lv_at hl 4 rfl) ?_
    refine xald F hP 3 (v := (nI ((myF S M v) k))) rfl (by omega) (by omega) rfl dX5_worstOf_25 ?_
    have hbd2 := hmb (k)
    refine xmax F hl.1 lkX5_worstOf_2 lkX5_worstOf_3 lkX5_worstOf_4 lkX5_worstOf_5 (Nat.le_of_ble_eq_true rfl) (Nat.le_of_ble_eq_true rfl) ⟨Nat.le_of_ble_eq_true rfl, Nat.le_of_ble_eq_true rfl⟩ (by omega) (by omega) dX5_worstOf_26 ?_
    refine lv_istore_n (lv' := [(3, .int (nI (max a ((myF S M v) k)))), (0, .ref m0), (1, .ref m7), (2, .int (nI v)), (4, .int (nI k))]) hx hb dX5_worstOf_29 rfl hl (by decide) rfl (fun ls hl => ?_)
    refine lv_iinc (v := (nI (k + 1))) (lv' := [(4, .int (nI (k + 1))), (3, .int (nI (max a ((myF S M v) k)))), (0, .ref m0), (1, .ref m7), (2, .int (nI v))]) hx hb dX5_worstOf_30 hl (k := 4) rfl (iincP k 1) (by decide) rfl (fun ls hl => ?_)
    refine lv_goto (tgt := 11) hx hb dX5_worstOf_33 (by decide) ?_
    exact ih11 (k + 1, max a ((myF S M v) k)) (show (max a ((myF S M v) k)) = mz (fun z_ => cnS (prt (tlS S) (lpB M) v z_)) (k + 1) ∧ (k + 1) ≤ 9 from (⟨by rw [ha]; exact wo_step.symm, by omega⟩)) (show 9 - (k + 1) < 9 - k from (by omega)) _ _ _ hP hD hS (lv_sub hl [2, 3, 4, 1, 0] rfl)

set_option maxHeartbeats 4000000 in
set_option maxRecDepth 100000 in
theorem mc_X5_meanOf (l : Launch) (g : EE) (m0 : Nat) (m1 : Nat) (m2 : Nat) (m3 : Nat) (m4 : Nat) (m5 : Nat) (m6 : Nat) (m7 : Nat) (m8 : Nat) (m9 : Nat) (m10 : Nat) (m11 : Nat) (m12 : Nat) (m13 : Nat) (m14 : Nat) (kp : Nat) (rn : Nat) (tn : Nat) (ia : Nat) (wl : Nat) (si : Nat) (S : Nat → Nat) (O : Nat → Int32) (Y : Nat → Nat) (Z : Nat → Nat) (M : Nat → Nat) (v : Nat) (hO : okS S) (hM : ∀ j, j ≤ 40 → M j ≤ 9) (hv : v ≤ 40) : CI l yX5_meanOf wsX5_meanOf ({ frames := 5, cells := 0, slots := 0, locals := 113 }) g [.ref m0, .ref m7, .int (nI v)] [(m0, .inr (5, [.ref m1, .ref m2, .ref m3, .int (nI kp), .ref m4, .ref m5, .ref m6, .ref m7, .ref m8, .int (nI rn), .ref m9, .int (nI tn), .int (nI ia), .int (nI wl), .ref m10, .ref m11, .ref m12, .int (nI si), .ref m13, .ref m14])), (m2, .inl (eI g, 49, .inl (fun j => nI (S j)))), (m4, .inl (eI g, 41, .inl O)), (m5, .inl (eI g, 9, .inl (fun j => nI (Y j)))), (m6, .inl (eI g, 9, .inl (fun j => nI (Z j)))), (m7, .inl (eI g, 49, .inl (fun j => nI (M j))))] (fun (rz : Int32) (wz : va_W) => ∃ O9 : Nat → Int32, ∃ Y9 : Nat → Nat, ∃ Z9 : Nat → Nat, rz = (nI (meS (tlS S) M (lpB M) v)) ∧ wz = [(m0, .inr (5, [.ref m1, .ref m2, .ref m3, .int (nI kp), .ref m4, .ref m5, .ref m6, .ref m7, .ref m8, .int (nI rn), .ref m9, .int (nI tn), .int (nI ia), .int (nI wl), .ref m10, .ref m11, .ref m12, .int (nI si), .ref m13, .ref m14])), (m2, .inl (eI g, 49, .inl (fun j => nI (S j)))), (m4, .inl (eI g, 41, .inl O9)), (m5, .inl (eI g, 9, .inl (fun j => nI (Y9 j)))), (m6, .inl (eI g, 9, .inl (fun j => nI (Z9 j)))), (m7, .inl (eI g, 49, .inl (fun j => nI (M j))))]) 0 0 := by
  refine ctI (cc := cX5_meanOf) (maxL := 5) (ret := (some .int)) (by decide) rfl (Nat.le_of_ble_eq_true rfl) ?_
  intro p_ e_ s_ m_ bl_ mt_ cd_ A ls F hnm hP hD hS hl
  obtain ⟨hx, hb, hml, hown, hts, hK, hX, hA, hrt_, hlocks⟩ := id F
  have hl : lv_has ls 5 [(0, .ref m0), (1, .ref m7), (2, .int (nI v))] := hl
  refine lv_aload_n hx hb dX5_meanOf_0 rfl (lv_at hl 0 rfl) ?_
  refine lv_aload_n hx hb dX5_meanOf_1 rfl (lv_at hl 1 rfl) ?_
  refine lv_iload_n hx hb dX5_meanOf_2 rfl (lv_at hl 2 rfl) ?_
  refine cVV (As := [.ref m7, .int (nI v)]) (rest := []) F (mc_X5_part l g m0 m1 m2 m3 m4 m5 m6 m7 m8 m9 m10 m11 m12 m13 m14 kp rn tn ia wl si S O Y Z M v (hO) (hM) (hv)) kX5_part rfl gX5_meanOf_X5_part rfl rfl ⟨Nat.le_of_ble_eq_true rfl, Nat.le_of_ble_eq_true rfl⟩ hP hD hS [0, 1, 2, 3, 4, 5] [] rfl rfl 0 rfl rfl hl.1 rfl rfl (Nat.le_of_ble_eq_true rfl) dX5_meanOf_3 ⟨Nat.le_of_ble_eq_true rfl, Nat.le_of_ble_eq_true rfl⟩ (fun w1 H locs hpo hP hD hS => ?_)
  subst hpo
  obtain ⟨hP, hD⟩ := nx (ws' := [(m0, .inr (5, [.ref m1, .ref m2, .ref m3, .int (nI kp), .ref m4, .ref m5, .ref m6, .ref m7, .ref m8, .int (nI rn), .ref m9, .int (nI tn), .int (nI ia), .int (nI wl), .ref m10, .ref m11, .ref m12, .int (nI si), .ref m13, .ref m14])), (m2, .inl (eI g, 49, .inl (fun j => nI (S j)))), (m4, .inl (eI g, 41, .inl (ofF O M (tlS S) v 40))), (m5, .inl (eI g, 9, .inl (fun j => nI ((myF S M v) j)))), (m6, .inl (eI g, 9, .inl (fun j => nI ((weF S M v) j)))), (m7, .inl (eI g, 49, .inl (fun j => nI (M j))))]) hP hD [0, 1, 2, 3, 4, 5] (ndB_ok _ rfl) rfl
  refine lv_iconst (v := (nI 0)) hx hb dX5_meanOf_6 (by decide) ?_
  refine lv_istore_n (lv' := [(3, .int (nI 0)), (0, .ref m0), (1, .ref m7), (2, .int (nI v))]) hx hb dX5_meanOf_7 rfl hl (by decide) rfl (fun ls hl => ?_)
  refine lv_iconst (v := (nI 0)) hx hb dX5_meanOf_8 (by decide) ?_
  refine lv_istore (lv' := [(4, .int (nI 0)), (3, .int (nI 0)), (0, .ref m0), (1, .ref m7), (2, .int (nI v))]) hx hb dX5_meanOf_9 hl (by decide) rfl (fun ls hl => ?_)
  refine xlo (σ := Nat × Nat) 5 (fun xz_ => (fun (k : Nat) (a : Nat) => [(0, .ref m0), (1, .ref m7), (2, .int (nI v)), (3, .int (nI a)), (4, .int (nI k))]) xz_.1 xz_.2) (fun xz_ => (fun (k : Nat) (a : Nat) => [(m0, .inr (5, [.ref m1, .ref m2, .ref m3, .int (nI kp), .ref m4, .ref m5, .ref m6, .ref m7, .ref m8, .int (nI rn), .ref m9, .int (nI tn), .int (nI ia), .int (nI wl), .ref m10, .ref m11, .ref m12, .int (nI si), .ref m13, .ref m14])), (m2, .inl (eI g, 49, .inl (fun j => nI (S j)))), (m4, .inl (eI g, 41, .inl (ofF O M (tlS S) v 40))), (m5, .inl (eI g, 9, .inl (fun j => nI ((myF S M v) j)))), (m6, .inl (eI g, 9, .inl (fun j => nI ((weF S M v) j)))), (m7, .inl (eI g, 49, .inl (fun j => nI (M j))))]) xz_.1 xz_.2) (fun xz_ => (fun (k : Nat) (a : Nat) => a = sz (fun z_ => wtS M (prt (tlS S) (lpB M) v z_) * cnS (prt (tlS S) (lpB M) v z_)) k ∧ k ≤ 9) xz_.1 xz_.2) (fun xz_ => (fun (k : Nat) (a : Nat) => 9 - k) xz_.1 xz_.2) (fun xz_ hI ih11 H locs ls hP hD hS hl => ?_) (0, 0) (show 0 = sz (fun z_ => wtS M (prt (tlS S) (lpB M) v z_) * cnS (prt (tlS S) (lpB M) v z_)) 0 ∧ 0 ≤ 9 from (⟨rfl, by omega⟩)) hP hD hS (lv_sub hl [2, 3, 4, 1, 0] rfl)
  obtain ⟨k, a⟩ := xz_
  have hP : va_P (eD g) vwCl [(m0, .inr (5, [.ref m1, .ref m2, .ref m3, .int (nI kp), .ref m4, .ref m5, .ref m6, .ref m7, .ref m8, .int (nI rn), .ref m9, .int (nI tn), .int (nI ia), .int (nI wl), .ref m10, .ref m11, .ref m12, .int (nI si), .ref m13, .ref m14])), (m2, .inl (eI g, 49, .inl (fun j => nI (S j)))), (m4, .inl (eI g, 41, .inl (ofF O M (tlS S) v 40))), (m5, .inl (eI g, 9, .inl (fun j => nI ((myF S M v) j)))), (m6, .inl (eI g, 9, .inl (fun j => nI ((weF S M v) j)))), (m7, .inl (eI g, 49, .inl (fun j => nI (M j))))] H := hP
  have hD : va_D A [(m0, .inr (5, [.ref m1, .ref m2, .ref m3, .int (nI kp), .ref m4, .ref m5, .ref m6, .ref m7, .ref m8, .int (nI rn), .ref m9, .int (nI tn), .int (nI ia), .int (nI wl), .ref m10, .ref m11, .ref m12, .int (nI si), .ref m13, .ref m14])), (m2, .inl (eI g, 49, .inl (fun j => nI (S j)))), (m4, .inl (eI g, 41, .inl (ofF O M (tlS S) v 40))), (m5, .inl (eI g, 9, .inl (fun j => nI ((myF S M v) j)))), (m6, .inl (eI g, 9, .inl (fun j => nI ((weF S M v) j)))), (m7, .inl (eI g, 49, .inl (fun j => nI (M j))))] := hD
  have hl : lv_has ls 5 [(0, .ref m0), (1, .ref m7), (2, .int (nI v)), (3, .int (nI a)), (4, .int (nI k))] := hl
  have hI11 : a = sz (fun z_ => wtS M (prt (tlS S) (lpB M) v z_) * cnS (prt (tlS S) (lpB M) v z_)) k ∧ k ≤ 9 := hI
  clear hI
  obtain ⟨ha, hk⟩ := id hI11
  refine lv_iload hx hb dX5_meanOf_11 (lv_at hl 4 rfl) ?_
  refine lv_bipush (v := (nI 8)) hx hb dX5_meanOf_13 (by decide) ?_
  refine xgt (tgt := 42) hx hb dX5_meanOf_15 (by decide) (by omega) (by omega) (fun c15 => ?_) (fun c15 => ?_)
  · skip
    refine lv_iload_n hx hb dX5_meanOf_42 rfl (lv_at hl 3 rfl) ?_
    exact rtI F hP hD hS dX5_meanOf_43 (⟨_, _, _, by rw [ha, show k = 9 by omega]; rfl, rfl⟩)
  · skip
    refine lv_iload_n hx hb dX5_meanOf_18 rfl (lv_at hl 3 rfl) ?_
    refine lv_aload_n hx hb dX5_meanOf_19 rfl (lv_at hl 0 rfl) ?_
    refine xget F hP inX5_meanOf_X5 0 rfl rfl 6 (by decide) lkX5_meanOf_1 rfl dX5_meanOf_20 ?_
    refine lv_iload hx hb dX5_meanOf_23 (lv_at hl 4 rfl) ?_
    refine xald F hP 4 (v := (nI ((weF S M v) k))) rfl (by omega) (by omega) rfl dX5_meanOf_25 ?_
    refine lv_aload_n hx hb dX5_meanOf_26 rfl (lv_at hl 0 rfl) ?_
    refine xget F hP inX5_meanOf_X5 0 rfl rfl 5 (by decide) lkX5_meanOf_2 rfl dX5_meanOf_27 ?_
    refine lv_iload hx hb dX5_meanOf_30 (lv_at hl 4 rfl) ?_
    refine xald F hP 3 (v := (nI ((myF S M v) k))) rfl (by omega) (by omega) rfl dX5_meanOf_32 ?_
    refine xmul hx hb dX5_meanOf_33 ?_
    refine xadd hx hb dX5_meanOf_34 ?_
    refine lv_istore_n (lv' := [(3, .int (nI (a + (((weF S M v) k) * ((myF S M v) k))))), (0, .ref m0), (1, .ref m7), (2, .int (nI v)), (4, .int (nI k))]) hx hb dX5_meanOf_35 rfl hl (by decide) rfl (fun ls hl => ?_)
    refine lv_iinc (v := (nI (k + 1))) (lv' := [(4, .int (nI (k + 1))), (3, .int (nI (a + (((weF S M v) k) * ((myF S M v) k))))), (0, .ref m0), (1, .ref m7), (2, .int (nI v))]) hx hb dX5_meanOf_36 hl (k := 4) rfl (iincP k 1) (by decide) rfl (fun ls hl => ?_)
    refine lv_goto (tgt := 11) hx hb dX5_meanOf_39 (by decide) ?_
    exact ih11 (k + 1, a + (((weF S M v) k) * ((myF S M v) k))) (show (a + (((weF S M v) k) * ((myF S M v) k))) = sz (fun z_ => wtS M (prt (tlS S) (lpB M) v z_) * cnS (prt (tlS S) (lpB M) v z_)) (k + 1) ∧ (k + 1) ≤ 9 from (⟨by rw [ha]; exact me_step.symm, by omega⟩)) (show 9 - (k + 1) < 9 - k from (by omega)) _ _ _ hP hD hS (lv_sub hl [2, 3, 4, 1, 0] rfl)

set_option maxHeartbeats 4000000 in
set_option maxRecDepth 100000 in
theorem mc_X5_valueBy (l : Launch) (g : EE) (m0 : Nat) (m1 : Nat) (m2 : Nat) (m3 : Nat) (m4 : Nat) (m5 : Nat) (m6 : Nat) (m7 : Nat) (m8 : Nat) (m9 : Nat) (m10 : Nat) (m11 : Nat) (m12 : Nat) (m13 : Nat) (m14 : Nat) (kp : Nat) (rn : Nat) (tn : Nat) (ia : Nat) (wl : Nat) (si : Nat) (S : Nat → Nat) (O : Nat → Int32) (Y : Nat → Nat) (Z : Nat → Nat) (M : Nat → Nat) (bb : Nat) (v : Nat) (hO : okS S) (hM : ∀ j, j ≤ 40 → M j ≤ 9) (hv : v ≤ 40) (hbb : bb ≤ 2) : CI l yX5_valueBy wsX5_valueBy ({ frames := 6, cells := 0, slots := 0, locals := 137 }) g [.ref m0, .ref m7, .int (nI bb), .int (nI v)] [(m0, .inr (5, [.ref m1, .ref m2, .ref m3, .int (nI kp), .ref m4, .ref m5, .ref m6, .ref m7, .ref m8, .int (nI rn), .ref m9, .int (nI tn), .int (nI ia), .int (nI wl), .ref m10, .ref m11, .ref m12, .int (nI si), .ref m13, .ref m14])), (m2, .inl (eI g, 49, .inl (fun j => nI (S j)))), (m4, .inl (eI g, 41, .inl O)), (m5, .inl (eI g, 9, .inl (fun j => nI (Y j)))), (m6, .inl (eI g, 9, .inl (fun j => nI (Z j)))), (m7, .inl (eI g, 49, .inl (fun j => nI (M j))))] (fun (rz : Int32) (wz : va_W) => ∃ O9 : Nat → Int32, ∃ Y9 : Nat → Nat, ∃ Z9 : Nat → Nat, rz = (iI (msI (tlS S) M (lpB M) bb v)) ∧ wz = [(m0, .inr (5, [.ref m1, .ref m2, .ref m3, .int (nI kp), .ref m4, .ref m5, .ref m6, .ref m7, .ref m8, .int (nI rn), .ref m9, .int (nI tn), .int (nI ia), .int (nI wl), .ref m10, .ref m11, .ref m12, .int (nI si), .ref m13, .ref m14])), (m2, .inl (eI g, 49, .inl (fun j => nI (S j)))), (m4, .inl (eI g, 41, .inl O9)), (m5, .inl (eI g, 9, .inl (fun j => nI (Y9 j)))), (m6, .inl (eI g, 9, .inl (fun j => nI (Z9 j)))), (m7, .inl (eI g, 49, .inl (fun j => nI (M j))))]) 0 0 := by
  refine ctI (cc := cX5_valueBy) (maxL := 4) (ret := (some .int)) (by decide) rfl (Nat.le_of_ble_eq_true rfl) ?_
  intro p_ e_ s_ m_ bl_ mt_ cd_ A ls F hnm hP hD hS hl
  obtain ⟨hx, hb, hml, hown, hts, hK, hX, hA, hrt_, hlocks⟩ := id F
  have hl : lv_has ls 4 [(0, .ref m0), (1, .ref m7), (2, .int (nI bb)), (3, .int (nI v))] := hl
  refine lv_iload_n hx hb dX5_valueBy_0 rfl (lv_at hl 2 rfl) ?_
  refine zne (tgt := 13) hx hb dX5_valueBy_1 (by decide) (by omega) (fun c1 => ?_) (fun c1 => ?_)
  · skip
    refine lv_iload_n hx hb dX5_valueBy_13 rfl (lv_at hl 2 rfl) ?_
    refine lv_iconst (v := (nI 1)) hx hb dX5_valueBy_14 (by decide) ?_
    refine xne (tgt := 27) hx hb dX5_valueBy_15 (by decide) (by omega) (by omega) (fun c15 => ?_) (fun c15 => ?_)
    · skip
      refine lv_aload_n hx hb dX5_valueBy_27 rfl (lv_at hl 0 rfl) ?_
      refine lv_aload_n hx hb dX5_valueBy_28 rfl (lv_at hl 1 rfl) ?_
      refine lv_iload_n hx hb dX5_valueBy_29 rfl (lv_at hl 3 rfl) ?_
      refine cVI (As := [.ref m7, .int (nI v)]) (rest := []) F (mc_X5_partsOf l g m0 m1 m2 m3 m4 m5 m6 m7 m8 m9 m10 m11 m12 m13 m14 kp rn tn ia wl si S O Y Z M v (hO) (hM) (hv)) kX5_partsOf rfl gX5_valueBy_X5_partsOf rfl rfl ⟨Nat.le_of_ble_eq_true rfl, Nat.le_of_ble_eq_true rfl⟩ hP hD hS [0, 1, 2, 3, 4, 5] [] rfl rfl 0 rfl rfl hl.1 rfl rfl (Nat.le_of_ble_eq_true rfl) dX5_valueBy_30 ⟨Nat.le_of_ble_eq_true rfl, Nat.le_of_ble_eq_true rfl⟩ (fun rz w1 H locs hpo hP hD hS => ?_)
      obtain ⟨O9_1, Y9_1, Z9_1, rfl, rfl⟩ := hpo
      obtain ⟨hP, hD⟩ := nx (ws' := [(m0, .inr (5, [.ref m1, .ref m2, .ref m3, .int (nI kp), .ref m4, .ref m5, .ref m6, .ref m7, .ref m8, .int (nI rn), .ref m9, .int (nI tn), .int (nI ia), .int (nI wl), .ref m10, .ref m11, .ref m12, .int (nI si), .ref m13, .ref m14])), (m2, .inl (eI g, 49, .inl (fun j => nI (S j)))), (m4, .inl (eI g, 41, .inl O9_1)), (m5, .inl (eI g, 9, .inl (fun j => nI (Y9_1 j)))), (m6, .inl (eI g, 9, .inl (fun j => nI (Z9_1 j)))), (m7, .inl (eI g, 49, .inl (fun j => nI (M j))))]) hP hD [0, 1, 2, 3, 4, 5] (ndB_ok _ rfl) rfl
      refine lv_ineg hx hb dX5_valueBy_33 ?_
      exact rtI F hP hD hS dX5_valueBy_34 (⟨_, _, _, by unfold msI; rw [if_neg (by omega), if_pos (by omega)]; exact neg_iI _, rfl⟩)
    · skip
      refine lv_aload_n hx hb dX5_valueBy_18 rfl (lv_at hl 0 rfl) ?_
      refine lv_aload_n hx hb dX5_valueBy_19 rfl (lv_at hl 1 rfl) ?_
      refine lv_iload_n hx hb dX5_valueBy_20 rfl (lv_at hl 3 rfl) ?_
      refine cVI (As := [.ref m7, .int (nI v)]) (rest := []) F (mc_X5_meanOf l g m0 m1 m2 m3 m4 m5 m6 m7 m8 m9 m10 m11 m12 m13 m14 kp rn tn ia wl si S O Y Z M v (hO) (hM) (hv)) kX5_meanOf rfl gX5_valueBy_X5_meanOf rfl rfl ⟨Nat.le_of_ble_eq_true rfl, Nat.le_of_ble_eq_true rfl⟩ hP hD hS [0, 1, 2, 3, 4, 5] [] rfl rfl 0 rfl rfl hl.1 rfl rfl (Nat.le_of_ble_eq_true rfl) dX5_valueBy_21 ⟨Nat.le_of_ble_eq_true rfl, Nat.le_of_ble_eq_true rfl⟩ (fun rz w1 H locs hpo hP hD hS => ?_)
      obtain ⟨O9_2, Y9_2, Z9_2, rfl, rfl⟩ := hpo
      obtain ⟨hP, hD⟩ := nx (ws' := [(m0, .inr (5, [.ref m1, .ref m2, .ref m3, .int (nI kp), .ref m4, .ref m5, .ref m6, .ref m7, .ref m8, .int (nI rn), .ref m9, .int (nI tn), .int (nI ia), .int (nI wl), .ref m10, .ref m11, .ref m12, .int (nI si), .ref m13, .ref m14])), (m2, .inl (eI g, 49, .inl (fun j => nI (S j)))), (m4, .inl (eI g, 41, .inl O9_2)), (m5, .inl (eI g, 9, .inl (fun j => nI (Y9_2 j)))), (m6, .inl (eI g, 9, .inl (fun j => nI (Z9_2 j)))), (m7, .inl (eI g, 49, .inl (fun j => nI (M j))))]) hP hD [0, 1, 2, 3, 4, 5] (ndB_ok _ rfl) rfl
      refine lv_goto (tgt := 34) hx hb dX5_valueBy_24 (by decide) ?_
      exact rtI F hP hD hS dX5_valueBy_34 (⟨_, _, _, by unfold msI; rw [if_pos (by omega)]; rfl, rfl⟩)
  · skip
    refine lv_aload_n hx hb dX5_valueBy_4 rfl (lv_at hl 0 rfl) ?_
    refine lv_aload_n hx hb dX5_valueBy_5 rfl (lv_at hl 1 rfl) ?_
    refine lv_iload_n hx hb dX5_valueBy_6 rfl (lv_at hl 3 rfl) ?_
    refine cVI (As := [.ref m7, .int (nI v)]) (rest := []) F (mc_X5_worstOf l g m0 m1 m2 m3 m4 m5 m6 m7 m8 m9 m10 m11 m12 m13 m14 kp rn tn ia wl si S O Y Z M v (hO) (hM) (hv)) kX5_worstOf rfl gX5_valueBy_X5_worstOf rfl rfl ⟨Nat.le_of_ble_eq_true rfl, Nat.le_of_ble_eq_true rfl⟩ hP hD hS [0, 1, 2, 3, 4, 5] [] rfl rfl 0 rfl rfl hl.1 rfl rfl (Nat.le_of_ble_eq_true rfl) dX5_valueBy_7 ⟨Nat.le_of_ble_eq_true rfl, Nat.le_of_ble_eq_true rfl⟩ (fun rz w1 H locs hpo hP hD hS => ?_)
    obtain ⟨O9_3, Y9_3, Z9_3, rfl, rfl⟩ := hpo
    obtain ⟨hP, hD⟩ := nx (ws' := [(m0, .inr (5, [.ref m1, .ref m2, .ref m3, .int (nI kp), .ref m4, .ref m5, .ref m6, .ref m7, .ref m8, .int (nI rn), .ref m9, .int (nI tn), .int (nI ia), .int (nI wl), .ref m10, .ref m11, .ref m12, .int (nI si), .ref m13, .ref m14])), (m2, .inl (eI g, 49, .inl (fun j => nI (S j)))), (m4, .inl (eI g, 41, .inl O9_3)), (m5, .inl (eI g, 9, .inl (fun j => nI (Y9_3 j)))), (m6, .inl (eI g, 9, .inl (fun j => nI (Z9_3 j)))), (m7, .inl (eI g, 49, .inl (fun j => nI (M j))))]) hP hD [0, 1, 2, 3, 4, 5] (ndB_ok _ rfl) rfl
    refine lv_goto (tgt := 34) hx hb dX5_valueBy_10 (by decide) ?_
    exact rtI F hP hD hS dX5_valueBy_34 (⟨_, _, _, by unfold msI; rw [if_neg (by omega), if_neg (by omega)]; rfl, rfl⟩)

set_option maxHeartbeats 4000000 in
set_option maxRecDepth 100000 in
theorem mc_X5_bestBy (l : Launch) (g : EE) (m0 : Nat) (m1 : Nat) (m2 : Nat) (m3 : Nat) (m4 : Nat) (m5 : Nat) (m6 : Nat) (m7 : Nat) (m8 : Nat) (m9 : Nat) (m10 : Nat) (m11 : Nat) (m12 : Nat) (m13 : Nat) (m14 : Nat) (kp : Nat) (rn : Nat) (tn : Nat) (ia : Nat) (wl : Nat) (si : Nat) (S : Nat → Nat) (O : Nat → Int32) (Y : Nat → Nat) (Z : Nat → Nat) (M : Nat → Nat) (bb : Nat) (hO : okS S) (hM : ∀ j, j ≤ 40 → M j ≤ 9) (hbb : bb ≤ 2) : CI l yX5_bestBy wsX5_bestBy ({ frames := 7, cells := 0, slots := 0, locals := 160 }) g [.ref m0, .ref m7, .int (nI bb)] [(m0, .inr (5, [.ref m1, .ref m2, .ref m3, .int (nI kp), .ref m4, .ref m5, .ref m6, .ref m7, .ref m8, .int (nI rn), .ref m9, .int (nI tn), .int (nI ia), .int (nI wl), .ref m10, .ref m11, .ref m12, .int (nI si), .ref m13, .ref m14])), (m2, .inl (eI g, 49, .inl (fun j => nI (S j)))), (m4, .inl (eI g, 41, .inl O)), (m5, .inl (eI g, 9, .inl (fun j => nI (Y j)))), (m6, .inl (eI g, 9, .inl (fun j => nI (Z j)))), (m7, .inl (eI g, 49, .inl (fun j => nI (M j))))] (fun (rz : Int32) (wz : va_W) => ∃ O9 : Nat → Int32, ∃ Y9 : Nat → Nat, ∃ Z9 : Nat → Nat, rz = (nI (bsI (tlS S) M (lpB M) bb)) ∧ wz = [(m0, .inr (5, [.ref m1, .ref m2, .ref m3, .int (nI kp), .ref m4, .ref m5, .ref m6, .ref m7, .ref m8, .int (nI rn), .ref m9, .int (nI tn), .int (nI ia), .int (nI wl), .ref m10, .ref m11, .ref m12, .int (nI si), .ref m13, .ref m14])), (m2, .inl (eI g, 49, .inl (fun j => nI (S j)))), (m4, .inl (eI g, 41, .inl O9)), (m5, .inl (eI g, 9, .inl (fun j => nI (Y9 j)))), (m6, .inl (eI g, 9, .inl (fun j => nI (Z9 j)))), (m7, .inl (eI g, 49, .inl (fun j => nI (M j))))]) 0 0 := by
  refine ctI (cc := cX5_bestBy) (maxL := 7) (ret := (some .int)) (by decide) rfl (Nat.le_of_ble_eq_true rfl) ?_
  intro p_ e_ s_ m_ bl_ mt_ cd_ A ls F hnm hP hD hS hl
  obtain ⟨hx, hb, hml, hown, hts, hK, hX, hA, hrt_, hlocks⟩ := id F
  have hl : lv_has ls 7 [(0, .ref m0), (1, .ref m7), (2, .int (nI bb))] := hl
  refine lv_iconst (v := (nI 1)) hx hb dX5_bestBy_0 (by decide) ?_
  refine lv_istore_n (lv' := [(3, .int (nI 1)), (0, .ref m0), (1, .ref m7), (2, .int (nI bb))]) hx hb dX5_bestBy_1 rfl hl (by decide) rfl (fun ls hl => ?_)
  refine lv_aload_n hx hb dX5_bestBy_2 rfl (lv_at hl 1 rfl) ?_
  refine lv_aload_n hx hb dX5_bestBy_3 rfl (lv_at hl 2 rfl) ?_
  refine lv_iload_n hx hb dX5_bestBy_4 rfl (lv_at hl 3 rfl) ?_
  refine lv_iconst (v := (nI 1)) hx hb dX5_bestBy_5 (by decide) ?_
  refine cVI (As := [.ref m7, .int (nI bb), .int (nI 1)]) (rest := []) F (mc_X5_valueBy l g m0 m1 m2 m3 m4 m5 m6 m7 m8 m9 m10 m11 m12 m13 m14 kp rn tn ia wl si S O Y Z M bb 1 (hO) (hM) (by omega) (hbb)) kX5_valueBy rfl gX5_bestBy_X5_valueBy rfl rfl ⟨Nat.le_of_ble_eq_true rfl, Nat.le_of_ble_eq_true rfl⟩ hP hD hS [0, 1, 2, 3, 4, 5] [] rfl rfl 0 rfl rfl hl.1 rfl rfl (Nat.le_of_ble_eq_true rfl) dX5_bestBy_6 ⟨Nat.le_of_ble_eq_true rfl, Nat.le_of_ble_eq_true rfl⟩ (fun rz w1 H locs hpo hP hD hS => ?_)
  obtain ⟨O9_1, Y9_1, Z9_1, rfl, rfl⟩ := hpo
  obtain ⟨hP, hD⟩ := nx (ws' := [(m0, .inr (5, [.ref m1, .ref m2, .ref m3, .int (nI kp), .ref m4, .ref m5, .ref m6, .ref m7, .ref m8, .int (nI rn), .ref m9, .int (nI tn), .int (nI ia), .int (nI wl), .ref m10, .ref m11, .ref m12, .int (nI si), .ref m13, .ref m14])), (m2, .inl (eI g, 49, .inl (fun j => nI (S j)))), (m4, .inl (eI g, 41, .inl O9_1)), (m5, .inl (eI g, 9, .inl (fun j => nI (Y9_1 j)))), (m6, .inl (eI g, 9, .inl (fun j => nI (Z9_1 j)))), (m7, .inl (eI g, 49, .inl (fun j => nI (M j))))]) hP hD [0, 1, 2, 3, 4, 5] (ndB_ok _ rfl) rfl
  refine lv_istore (lv' := [(4, .int (iI (msI (tlS S) M (lpB M) bb 1))), (3, .int (nI 1)), (0, .ref m0), (1, .ref m7), (2, .int (nI bb))]) hx hb dX5_bestBy_9 hl (by decide) rfl (fun ls hl => ?_)
  refine lv_iconst (v := (nI 2)) hx hb dX5_bestBy_11 (by decide) ?_
  refine lv_istore (lv' := [(5, .int (nI 2)), (4, .int (iI (msI (tlS S) M (lpB M) bb 1))), (3, .int (nI 1)), (0, .ref m0), (1, .ref m7), (2, .int (nI bb))]) hx hb dX5_bestBy_12 hl (by decide) rfl (fun ls hl => ?_)
  refine xlo (σ := Nat × Nat × (Nat → Int32) × (Nat → Nat) × (Nat → Nat)) 7 (fun xz_ => (fun (i : Nat) (b : Nat) (o : Nat → Int32) (y2 : Nat → Nat) (z2 : Nat → Nat) => [(0, .ref m0), (1, .ref m7), (2, .int (nI bb)), (3, .int (nI b)), (4, .int (iI (msI (tlS S) M (lpB M) bb b))), (5, .int (nI i))]) xz_.1 xz_.2.1 xz_.2.2.1 xz_.2.2.2.1 xz_.2.2.2.2) (fun xz_ => (fun (i : Nat) (b : Nat) (o : Nat → Int32) (y2 : Nat → Nat) (z2 : Nat → Nat) => [(m0, .inr (5, [.ref m1, .ref m2, .ref m3, .int (nI kp), .ref m4, .ref m5, .ref m6, .ref m7, .ref m8, .int (nI rn), .ref m9, .int (nI tn), .int (nI ia), .int (nI wl), .ref m10, .ref m11, .ref m12, .int (nI si), .ref m13, .ref m14])), (m2, .inl (eI g, 49, .inl (fun j => nI (S j)))), (m4, .inl (eI g, 41, .inl o)), (m5, .inl (eI g, 9, .inl (fun j => nI (y2 j)))), (m6, .inl (eI g, 9, .inl (fun j => nI (z2 j)))), (m7, .inl (eI g, 49, .inl (fun j => nI (M j))))]) xz_.1 xz_.2.1 xz_.2.2.1 xz_.2.2.2.1 xz_.2.2.2.2) (fun xz_ => (fun (i : Nat) (b : Nat) (o : Nat → Int32) (y2 : Nat → Nat) (z2 : Nat → Nat) => b = am (msI (tlS S) M (lpB M) bb) (i - 1) ∧ 2 ≤ i ∧ i ≤ 41) xz_.1 xz_.2.1 xz_.2.2.1 xz_.2.2.2.1 xz_.2.2.2.2) (fun xz_ => (fun (i : Nat) (b : Nat) (o : Nat → Int32) (y2 : Nat → Nat) (z2 : Nat → Nat) => 41 - i) xz_.1 xz_.2.1 xz_.2.2.1 xz_.2.2.2.1 xz_.2.2.2.2) (fun xz_ hI ih14 H locs ls hP hD hS hl => ?_) (2, 1, O9_1, Y9_1, Z9_1) (show 1 = am (msI (tlS S) M (lpB M) bb) (2 - 1) ∧ 2 ≤ 2 ∧ 2 ≤ 41 from (⟨(am_1 _).symm, by omega, by omega⟩)) hP hD hS (lv_sub hl [3, 4, 5, 2, 1, 0] rfl)
  obtain ⟨i, b, o, y2, z2⟩ := xz_
  have hP : va_P (eD g) vwCl [(m0, .inr (5, [.ref m1, .ref m2, .ref m3, .int (nI kp), .ref m4, .ref m5, .ref m6, .ref m7, .ref m8, .int (nI rn), .ref m9, .int (nI tn), .int (nI ia), .int (nI wl), .ref m10, .ref m11, .ref m12, .int (nI si), .ref m13, .ref m14])), (m2, .inl (eI g, 49, .inl (fun j => nI (S j)))), (m4, .inl (eI g, 41, .inl o)), (m5, .inl (eI g, 9, .inl (fun j => nI (y2 j)))), (m6, .inl (eI g, 9, .inl (fun j => nI (z2 j)))), (m7, .inl (eI g, 49, .inl (fun j => nI (M j))))] H := hP
  have hD : va_D A [(m0, .inr (5, [.ref m1, .ref m2, .ref m3, .int (nI kp), .ref m4, .ref m5, .ref m6, .ref m7, .ref m8, .int (nI rn), .ref m9, .int (nI tn), .int (nI ia), .int (nI wl), .ref m10, .ref m11, .ref m12, .int (nI si), .ref m13, .ref m14])), (m2, .inl (eI g, 49, .inl (fun j => nI (S j)))), (m4, .inl (eI g, 41, .inl o)), (m5, .inl (eI g, 9, .inl (fun j => nI (y2 j)))), (m6, .inl (eI g, 9, .inl (fun j => nI (z2 j)))), (m7, .inl (eI g, 49, .inl (fun j => nI (M j))))] := hD
  have hl : lv_has ls 7 [(0, .ref m0), (1, .ref m7), (2, .int (nI bb)), (3, .int (nI b)), (4, .int (iI (msI (tlS S) M (lpB M) bb b))), (5, .int (nI i))] := hl
  have hI14 : b = am (msI (tlS S) M (lpB M) bb) (i - 1) ∧ 2 ≤ i ∧ i ≤ 41 := hI
  clear hI
  obtain ⟨hb0, hi1, hi2⟩ := id hI14
  refine lv_iload hx hb dX5_bestBy_14 (lv_at hl 5 rfl) ?_
  refine lv_bipush (v := (nI 40)) hx hb dX5_bestBy_16 (by decide) ?_
  refine xgt (tgt := 60) hx hb dX5_bestBy_18 (by decide) (by omega) (by omega) (fun c18 => ?_) (fun c18 => ?_)
  · skip
    refine lv_iload_n hx hb dX5_bestBy_60 rfl (lv_at hl 3 rfl) ?_
    exact rtI F hP hD hS dX5_bestBy_61 (⟨_, _, _, by rw [hb0, show i - 1 = 40 by omega]; rfl, rfl⟩)
  · skip
    refine lv_aload_n hx hb dX5_bestBy_21 rfl (lv_at hl 0 rfl) ?_
    refine lv_aload_n hx hb dX5_bestBy_22 rfl (lv_at hl 1 rfl) ?_
    refine lv_iload_n hx hb dX5_bestBy_23 rfl (lv_at hl 2 rfl) ?_
    refine lv_iload hx hb dX5_bestBy_24 (lv_at hl 5 rfl) ?_
    refine cVI (As := [.ref m7, .int (nI bb), .int (nI i)]) (rest := []) F (mc_X5_valueBy l g m0 m1 m2 m3 m4 m5 m6 m7 m8 m9 m10 m11 m12 m13 m14 kp rn tn ia wl si S o y2 z2 M bb i (hO) (hM) (by omega) (hbb)) kX5_valueBy rfl gX5_bestBy_X5_valueBy rfl rfl ⟨Nat.le_of_ble_eq_true rfl, Nat.le_of_ble_eq_true rfl⟩ hP hD hS [0, 1, 2, 3, 4, 5] [] rfl rfl 0 rfl rfl hl.1 rfl rfl (Nat.le_of_ble_eq_true rfl) dX5_bestBy_26 ⟨Nat.le_of_ble_eq_true rfl, Nat.le_of_ble_eq_true rfl⟩ (fun rz w1 H locs hpo hP hD hS => ?_)
    obtain ⟨O9_2, Y9_2, Z9_2, rfl, rfl⟩ := hpo
    obtain ⟨hP, hD⟩ := nx (ws' := [(m0, .inr (5, [.ref m1, .ref m2, .ref m3, .int (nI kp), .ref m4, .ref m5, .ref m6, .ref m7, .ref m8, .int (nI rn), .ref m9, .int (nI tn), .int (nI ia), .int (nI wl), .ref m10, .ref m11, .ref m12, .int (nI si), .ref m13, .ref m14])), (m2, .inl (eI g, 49, .inl (fun j => nI (S j)))), (m4, .inl (eI g, 41, .inl O9_2)), (m5, .inl (eI g, 9, .inl (fun j => nI (Y9_2 j)))), (m6, .inl (eI g, 9, .inl (fun j => nI (Z9_2 j)))), (m7, .inl (eI g, 49, .inl (fun j => nI (M j))))]) hP hD [0, 1, 2, 3, 4, 5] (ndB_ok _ rfl) rfl
    refine lv_istore (lv' := [(6, .int (iI (msI (tlS S) M (lpB M) bb i))), (0, .ref m0), (1, .ref m7), (2, .int (nI bb)), (3, .int (nI b)), (4, .int (iI (msI (tlS S) M (lpB M) bb b))), (5, .int (nI i))]) hx hb dX5_bestBy_29 hl (by decide) rfl (fun ls hl => ?_)
    refine lv_iload hx hb dX5_bestBy_31 (lv_at hl 0 rfl) ?_
    refine lv_iload hx hb dX5_bestBy_33 (lv_at hl 5 rfl) ?_
    refine lv_icmp_ge (tgt := 43) hx hb dX5_bestBy_35 (by decide) (fun c35 => ?_) (fun c35 => ?_)
    · skip
      refine lv_iload_n hx hb dX5_bestBy_43 rfl (lv_at hl 4 rfl) ?_
      refine lv_istore_n (lv' := [(3, .int (nI b)), (6, .int (iI (msI (tlS S) M (lpB M) bb i))), (0, .ref m0), (1, .ref m7), (2, .int (nI bb)), (4, .int (iI (msI (tlS S) M (lpB M) bb b))), (5, .int (nI i))]) hx hb dX5_bestBy_44 rfl hl (by decide) rfl (fun ls hl => ?_)
      refine lv_iload hx hb dX5_bestBy_45 (lv_at hl 5 rfl) ?_
      refine lv_iload hx hb dX5_bestBy_47 (lv_at hl 1 rfl) ?_
      refine va_mmin hx hb (hml.trans hl.1.symm) hown (F.lk lkX5_bestBy_1) (F.lk lkX5_bestBy_2) (F.lk lkX5_bestBy_3) (F.lk lkX5_bestBy_4) (Nat.le_of_ble_eq_true rfl) (Nat.le_of_ble_eq_true rfl) (Nat.le_of_ble_eq_true rfl) (Nat.le_of_ble_eq_true rfl) dX5_bestBy_49 ?_
      refine sti (if_neg (Int32.not_lt.mpr c35)) ?_
      refine lv_istore (lv' := [(4, .int (iI (msI (tlS S) M (lpB M) bb b))), (3, .int (nI b)), (6, .int (iI (msI (tlS S) M (lpB M) bb i))), (0, .ref m0), (1, .ref m7), (2, .int (nI bb)), (5, .int (nI i))]) hx hb dX5_bestBy_52 hl (by decide) rfl (fun ls hl => ?_)
      refine lv_iinc (v := (nI (i + 1))) (lv' := [(5, .int (nI (i + 1))), (4, .int (iI (msI (tlS S) M (lpB M) bb b))), (3, .int (nI b)), (6, .int (iI (msI (tlS S) M (lpB M) bb i))), (0, .ref m0), (1, .ref m7), (2, .int (nI bb))]) hx hb dX5_bestBy_54 hl (k := 6) rfl (iincP i 1) (by decide) rfl (fun ls hl => ?_)
      refine lv_goto (tgt := 14) hx hb dX5_bestBy_57 (by decide) ?_
      exact ih14 (i + 1, b, O9_2, Y9_2, Z9_2) (show b = am (msI (tlS S) M (lpB M) bb) ((i + 1) - 1) ∧ 2 ≤ (i + 1) ∧ (i + 1) ≤ 41 from (⟨am_old (by omega) hb0 (Int.not_lt.mp (fun z => absurd ((iI_lt (msS_b hM) (msS_b hM)).mpr z) (Int32.not_lt.mpr c35))), by omega, by omega⟩)) (show 41 - (i + 1) < 41 - i from (by omega)) _ _ _ hP hD hS (lv_sub hl [4, 5, 6, 2, 1, 0] rfl)
    · skip
      refine lv_iload hx hb dX5_bestBy_38 (lv_at hl 6 rfl) ?_
      refine lv_goto (tgt := 44) hx hb dX5_bestBy_40 (by decide) ?_
      refine lv_istore_n (lv' := [(3, .int (nI i)), (6, .int (iI (msI (tlS S) M (lpB M) bb i))), (0, .ref m0), (1, .ref m7), (2, .int (nI bb)), (4, .int (iI (msI (tlS S) M (lpB M) bb b))), (5, .int (nI i))]) hx hb dX5_bestBy_44 rfl hl (by decide) rfl (fun ls hl => ?_)
      refine lv_iload hx hb dX5_bestBy_45 (lv_at hl 5 rfl) ?_
      refine lv_iload hx hb dX5_bestBy_47 (lv_at hl 1 rfl) ?_
      refine va_mmin hx hb (hml.trans hl.1.symm) hown (F.lk lkX5_bestBy_1) (F.lk lkX5_bestBy_2) (F.lk lkX5_bestBy_3) (F.lk lkX5_bestBy_4) (Nat.le_of_ble_eq_true rfl) (Nat.le_of_ble_eq_true rfl) (Nat.le_of_ble_eq_true rfl) (Nat.le_of_ble_eq_true rfl) dX5_bestBy_49 ?_
      refine sti (if_pos (Int32.not_le.mp c35)) ?_
      refine lv_istore (lv' := [(4, .int (iI (msI (tlS S) M (lpB M) bb i))), (3, .int (nI i)), (6, .int (iI (msI (tlS S) M (lpB M) bb i))), (0, .ref m0), (1, .ref m7), (2, .int (nI bb)), (5, .int (nI i))]) hx hb dX5_bestBy_52 hl (by decide) rfl (fun ls hl => ?_)
      refine lv_iinc (v := (nI (i + 1))) (lv' := [(5, .int (nI (i + 1))), (4, .int (iI (msI (tlS S) M (lpB M) bb i))), (3, .int (nI i)), (6, .int (iI (msI (tlS S) M (lpB M) bb i))), (0, .ref m0), (1, .ref m7), (2, .int (nI bb))]) hx hb dX5_bestBy_54 hl (k := 6) rfl (iincP i 1) (by decide) rfl (fun ls hl => ?_)
      refine lv_goto (tgt := 14) hx hb dX5_bestBy_57 (by decide) ?_
      exact ih14 (i + 1, i, O9_2, Y9_2, Z9_2) (show i = am (msI (tlS S) M (lpB M) bb) ((i + 1) - 1) ∧ 2 ≤ (i + 1) ∧ (i + 1) ≤ 41 from (⟨am_new (by omega) hb0 ((iI_lt (msS_b hM) (msS_b hM)).mp (Int32.not_le.mp c35)), by omega, by omega⟩)) (show 41 - (i + 1) < 41 - i from (by omega)) _ _ _ hP hD hS (lv_sub hl [4, 5, 6, 2, 1, 0] rfl)

set_option maxHeartbeats 4000000 in
set_option maxRecDepth 100000 in
theorem mc_X5_faultsAt (l : Launch) (g : EE) (m0 : Nat) (m1 : Nat) (m2 : Nat) (m3 : Nat) (m4 : Nat) (m5 : Nat) (m6 : Nat) (m7 : Nat) (m8 : Nat) (m9 : Nat) (m10 : Nat) (m11 : Nat) (m12 : Nat) (m13 : Nat) (m14 : Nat) (kp : Nat) (rn : Nat) (tn : Nat) (ia : Nat) (wl : Nat) (si : Nat) (S : Nat → Nat) (M : Nat → Nat) (u : Nat) (hO : okS S) (hM : ∀ j, j ≤ 40 → M j ≤ 9) (hu : u ≤ 40) : CI l yX5_faultsAt wsX5_faultsAt ({ frames := 1, cells := 0, slots := 0, locals := 15 }) g [.ref m0, .ref m7, .int (nI u)] [(m0, .inr (5, [.ref m1, .ref m2, .ref m3, .int (nI kp), .ref m4, .ref m5, .ref m6, .ref m7, .ref m8, .int (nI rn), .ref m9, .int (nI tn), .int (nI ia), .int (nI wl), .ref m10, .ref m11, .ref m12, .int (nI si), .ref m13, .ref m14])), (m2, .inl (eI g, 49, .inl (fun j => nI (S j)))), (m7, .inl (eI g, 49, .inl (fun j => nI (M j))))] (fun (rz : Int32) (wz : va_W) => rz = (nI (faS M (lpB M) u * S 45)) ∧ wz = [(m0, .inr (5, [.ref m1, .ref m2, .ref m3, .int (nI kp), .ref m4, .ref m5, .ref m6, .ref m7, .ref m8, .int (nI rn), .ref m9, .int (nI tn), .int (nI ia), .int (nI wl), .ref m10, .ref m11, .ref m12, .int (nI si), .ref m13, .ref m14])), (m2, .inl (eI g, 49, .inl (fun j => nI (S j)))), (m7, .inl (eI g, 49, .inl (fun j => nI (M j))))]) 0 0 := by
  refine ctI (cc := cX5_faultsAt) (maxL := 5) (ret := (some .int)) (by decide) rfl (Nat.le_of_ble_eq_true rfl) ?_
  intro p_ e_ s_ m_ bl_ mt_ cd_ A ls F hnm hP hD hS hl
  obtain ⟨hx, hb, hml, hown, hts, hK, hX, hA, hrt_, hlocks⟩ := id F
  have hl : lv_has ls 5 [(0, .ref m0), (1, .ref m7), (2, .int (nI u))] := hl
  refine lv_iconst (v := (nI 0)) hx hb dX5_faultsAt_0 (by decide) ?_
  refine lv_istore_n (lv' := [(3, .int (nI 0)), (0, .ref m0), (1, .ref m7), (2, .int (nI u))]) hx hb dX5_faultsAt_1 rfl hl (by decide) rfl (fun ls hl => ?_)
  refine lv_iconst (v := (nI 1)) hx hb dX5_faultsAt_2 (by decide) ?_
  refine lv_istore (lv' := [(4, .int (nI 1)), (3, .int (nI 0)), (0, .ref m0), (1, .ref m7), (2, .int (nI u))]) hx hb dX5_faultsAt_3 hl (by decide) rfl (fun ls hl => ?_)
  refine xlo (σ := Nat × Nat) 5 (fun xz_ => (fun (i : Nat) (a : Nat) => [(0, .ref m0), (1, .ref m7), (2, .int (nI u)), (3, .int (nI a)), (4, .int (nI i))]) xz_.1 xz_.2) (fun xz_ => (fun (i : Nat) (a : Nat) => [(m0, .inr (5, [.ref m1, .ref m2, .ref m3, .int (nI kp), .ref m4, .ref m5, .ref m6, .ref m7, .ref m8, .int (nI rn), .ref m9, .int (nI tn), .int (nI ia), .int (nI wl), .ref m10, .ref m11, .ref m12, .int (nI si), .ref m13, .ref m14])), (m2, .inl (eI g, 49, .inl (fun j => nI (S j)))), (m7, .inl (eI g, 49, .inl (fun j => nI (M j))))]) xz_.1 xz_.2) (fun xz_ => (fun (i : Nat) (a : Nat) => a = sg (fun r => M r * S 45 * dst u r) (i - 1) ∧ 1 ≤ i ∧ i ≤ 41) xz_.1 xz_.2) (fun xz_ => (fun (i : Nat) (a : Nat) => 41 - i) xz_.1 xz_.2) (fun xz_ hI ih5 H locs ls hP hD hS hl => ?_) (1, 0) (show 0 = sg (fun r => M r * S 45 * dst u r) (1 - 1) ∧ 1 ≤ 1 ∧ 1 ≤ 41 from (⟨rfl, by omega, by omega⟩)) hP hD hS (lv_sub hl [2, 3, 4, 1, 0] rfl)
  obtain ⟨i, a⟩ := xz_
  have hP : va_P (eD g) vwCl [(m0, .inr (5, [.ref m1, .ref m2, .ref m3, .int (nI kp), .ref m4, .ref m5, .ref m6, .ref m7, .ref m8, .int (nI rn), .ref m9, .int (nI tn), .int (nI ia), .int (nI wl), .ref m10, .ref m11, .ref m12, .int (nI si), .ref m13, .ref m14])), (m2, .inl (eI g, 49, .inl (fun j => nI (S j)))), (m7, .inl (eI g, 49, .inl (fun j => nI (M j))))] H := hP
  have hD : va_D A [(m0, .inr (5, [.ref m1, .ref m2, .ref m3, .int (nI kp), .ref m4, .ref m5, .ref m6, .ref m7, .ref m8, .int (nI rn), .ref m9, .int (nI tn), .int (nI ia), .int (nI wl), .ref m10, .ref m11, .ref m12, .int (nI si), .ref m13, .ref m14])), (m2, .inl (eI g, 49, .inl (fun j => nI (S j)))), (m7, .inl (eI g, 49, .inl (fun j => nI (M j))))] := hD
  have hl : lv_has ls 5 [(0, .ref m0), (1, .ref m7), (2, .int (nI u)), (3, .int (nI a)), (4, .int (nI i))] := hl
  have hI5 : a = sg (fun r => M r * S 45 * dst u r) (i - 1) ∧ 1 ≤ i ∧ i ≤ 41 := hI
  clear hI
  obtain ⟨ha, hi1, hi2⟩ := id hI5
  refine lv_iload hx hb dX5_faultsAt_5 (lv_at hl 4 rfl) ?_
  refine lv_bipush (v := (nI 40)) hx hb dX5_faultsAt_7 (by decide) ?_
  refine xgt (tgt := 41) hx hb dX5_faultsAt_9 (by decide) (by omega) (by omega) (fun c9 => ?_) (fun c9 => ?_)
  · skip
    refine lv_iload_n hx hb dX5_faultsAt_41 rfl (lv_at hl 3 rfl) ?_
    exact rtI F hP hD hS dX5_faultsAt_42 (⟨by rw [ha, show i - 1 = 40 by omega, faS_lin], rfl⟩)
  · skip
    refine lv_iload_n hx hb dX5_faultsAt_12 rfl (lv_at hl 3 rfl) ?_
    refine lv_aload_n hx hb dX5_faultsAt_13 rfl (lv_at hl 1 rfl) ?_
    refine lv_iload hx hb dX5_faultsAt_14 (lv_at hl 4 rfl) ?_
    refine xald F hP 2 (v := (nI (M i))) rfl (by omega) (by omega) rfl dX5_faultsAt_16 ?_
    refine lv_aload_n hx hb dX5_faultsAt_17 rfl (lv_at hl 0 rfl) ?_
    refine xget F hP inX5_faultsAt_X5 0 rfl rfl 1 (by decide) lkX5_faultsAt_1 rfl dX5_faultsAt_18 ?_
    refine lv_bipush (v := (nI 45)) hx hb dX5_faultsAt_21 (by decide) ?_
    refine xald F hP 1 (v := (nI (S 45))) rfl (by omega) (by omega) rfl dX5_faultsAt_23 ?_
    refine xmul hx hb dX5_faultsAt_24 ?_
    refine lv_iload_n hx hb dX5_faultsAt_25 rfl (lv_at hl 2 rfl) ?_
    refine lv_iload hx hb dX5_faultsAt_26 (lv_at hl 4 rfl) ?_
    refine lv_isub hx hb dX5_faultsAt_28 ?_
    refine xabs F hl.1 lkX5_faultsAt_2 lkX5_faultsAt_3 lkX5_faultsAt_4 lkX5_faultsAt_5 (Nat.le_of_ble_eq_true rfl) (Nat.le_of_ble_eq_true rfl) ⟨Nat.le_of_ble_eq_true rfl, Nat.le_of_ble_eq_true rfl⟩ (by omega) (by omega) dX5_faultsAt_29 ?_
    refine xmul hx hb dX5_faultsAt_32 ?_
    refine xadd hx hb dX5_faultsAt_33 ?_
    refine lv_istore_n (lv' := [(3, .int (nI (a + (((M i) * (S 45)) * (dst u i))))), (0, .ref m0), (1, .ref m7), (2, .int (nI u)), (4, .int (nI i))]) hx hb dX5_faultsAt_34 rfl hl (by decide) rfl (fun ls hl => ?_)
    refine lv_iinc (v := (nI (i + 1))) (lv' := [(4, .int (nI (i + 1))), (3, .int (nI (a + (((M i) * (S 45)) * (dst u i))))), (0, .ref m0), (1, .ref m7), (2, .int (nI u))]) hx hb dX5_faultsAt_35 hl (k := 4) rfl (iincP i 1) (by decide) rfl (fun ls hl => ?_)
    refine lv_goto (tgt := 5) hx hb dX5_faultsAt_38 (by decide) ?_
    exact ih5 (i + 1, a + (((M i) * (S 45)) * (dst u i))) (show (a + (((M i) * (S 45)) * (dst u i))) = sg (fun r => M r * S 45 * dst u r) ((i + 1) - 1) ∧ 1 ≤ (i + 1) ∧ (i + 1) ≤ 41 from (⟨by rw [ha]; exact (sg_step (f := fun r => M r * S 45 * dst u r) (by omega) rfl).symm, by omega, by omega⟩)) (show 41 - (i + 1) < 41 - i from (by omega)) _ _ _ hP hD hS (lv_sub hl [2, 3, 4, 1, 0] rfl)

set_option maxHeartbeats 4000000 in
set_option maxRecDepth 100000 in
theorem mc_X5_giveBy (l : Launch) (g : EE) (m0 : Nat) (m1 : Nat) (m2 : Nat) (m3 : Nat) (m4 : Nat) (m5 : Nat) (m6 : Nat) (m7 : Nat) (m8 : Nat) (m9 : Nat) (m10 : Nat) (m11 : Nat) (m12 : Nat) (m13 : Nat) (m14 : Nat) (kp : Nat) (rn : Nat) (tn : Nat) (ia : Nat) (wl : Nat) (si : Nat) (S : Nat → Nat) (M : Nat → Nat) (hO : okS S) (hM : ∀ j, j ≤ 40 → M j ≤ 9) : CI l yX5_giveBy wsX5_giveBy ({ frames := 2, cells := 0, slots := 0, locals := 39 }) g [.ref m0, .ref m7] [(m0, .inr (5, [.ref m1, .ref m2, .ref m3, .int (nI kp), .ref m4, .ref m5, .ref m6, .ref m7, .ref m8, .int (nI rn), .ref m9, .int (nI tn), .int (nI ia), .int (nI wl), .ref m10, .ref m11, .ref m12, .int (nI si), .ref m13, .ref m14])), (m2, .inl (eI g, 49, .inl (fun j => nI (S j)))), (m7, .inl (eI g, 49, .inl (fun j => nI (M j))))] (fun (rz : Int32) (wz : va_W) => rz = (nI (giS M (lpB M) (S 45))) ∧ wz = [(m0, .inr (5, [.ref m1, .ref m2, .ref m3, .int (nI kp), .ref m4, .ref m5, .ref m6, .ref m7, .ref m8, .int (nI rn), .ref m9, .int (nI tn), .int (nI ia), .int (nI wl), .ref m10, .ref m11, .ref m12, .int (nI si), .ref m13, .ref m14])), (m2, .inl (eI g, 49, .inl (fun j => nI (S j)))), (m7, .inl (eI g, 49, .inl (fun j => nI (M j))))]) 0 0 := by
  refine ctI (cc := cX5_giveBy) (maxL := 4) (ret := (some .int)) (by decide) rfl (Nat.le_of_ble_eq_true rfl) ?_
  intro p_ e_ s_ m_ bl_ mt_ cd_ A ls F hnm hP hD hS hl
  obtain ⟨hx, hb, hml, hown, hts, hK, hX, hA, hrt_, hlocks⟩ := id F
  have hl : lv_has ls 4 [(0, .ref m0), (1, .ref m7)] := hl
  refine lv_iconst (v := (nI 1)) hx hb dX5_giveBy_0 (by decide) ?_
  refine lv_istore_n (lv' := [(2, .int (nI 1)), (0, .ref m0), (1, .ref m7)]) hx hb dX5_giveBy_1 rfl hl (by decide) rfl (fun ls hl => ?_)
  refine lv_iconst (v := (nI 2)) hx hb dX5_giveBy_2 (by decide) ?_
  refine lv_istore_n (lv' := [(3, .int (nI 2)), (2, .int (nI 1)), (0, .ref m0), (1, .ref m7)]) hx hb dX5_giveBy_3 rfl hl (by decide) rfl (fun ls hl => ?_)
  refine xlo (σ := Nat × Nat) 4 (fun xz_ => (fun (i : Nat) (b : Nat) => [(0, .ref m0), (1, .ref m7), (2, .int (nI b)), (3, .int (nI i))]) xz_.1 xz_.2) (fun xz_ => (fun (i : Nat) (b : Nat) => [(m0, .inr (5, [.ref m1, .ref m2, .ref m3, .int (nI kp), .ref m4, .ref m5, .ref m6, .ref m7, .ref m8, .int (nI rn), .ref m9, .int (nI tn), .int (nI ia), .int (nI wl), .ref m10, .ref m11, .ref m12, .int (nI si), .ref m13, .ref m14])), (m2, .inl (eI g, 49, .inl (fun j => nI (S j)))), (m7, .inl (eI g, 49, .inl (fun j => nI (M j))))]) xz_.1 xz_.2) (fun xz_ => (fun (i : Nat) (b : Nat) => b = am (fun v => ((faS M (lpB M) v * S 45 : Nat) : Int)) (i - 1) ∧ 2 ≤ i ∧ i ≤ 41) xz_.1 xz_.2) (fun xz_ => (fun (i : Nat) (b : Nat) => 41 - i) xz_.1 xz_.2) (fun xz_ hI ih4 H locs ls hP hD hS hl => ?_) (2, 1) (show 1 = am (fun v => ((faS M (lpB M) v * S 45 : Nat) : Int)) (2 - 1) ∧ 2 ≤ 2 ∧ 2 ≤ 41 from (⟨(am_1 _).symm, by omega, by omega⟩)) hP hD hS (lv_sub hl [2, 3, 1, 0] rfl)
  obtain ⟨i, b⟩ := xz_
  have hP : va_P (eD g) vwCl [(m0, .inr (5, [.ref m1, .ref m2, .ref m3, .int (nI kp), .ref m4, .ref m5, .ref m6, .ref m7, .ref m8, .int (nI rn), .ref m9, .int (nI tn), .int (nI ia), .int (nI wl), .ref m10, .ref m11, .ref m12, .int (nI si), .ref m13, .ref m14])), (m2, .inl (eI g, 49, .inl (fun j => nI (S j)))), (m7, .inl (eI g, 49, .inl (fun j => nI (M j))))] H := hP
  have hD : va_D A [(m0, .inr (5, [.ref m1, .ref m2, .ref m3, .int (nI kp), .ref m4, .ref m5, .ref m6, .ref m7, .ref m8, .int (nI rn), .ref m9, .int (nI tn), .int (nI ia), .int (nI wl), .ref m10, .ref m11, .ref m12, .int (nI si), .ref m13, .ref m14])), (m2, .inl (eI g, 49, .inl (fun j => nI (S j)))), (m7, .inl (eI g, 49, .inl (fun j => nI (M j))))] := hD
  have hl : lv_has ls 4 [(0, .ref m0), (1, .ref m7), (2, .int (nI b)), (3, .int (nI i))] := hl
  have hI4 : b = am (fun v => ((faS M (lpB M) v * S 45 : Nat) : Int)) (i - 1) ∧ 2 ≤ i ∧ i ≤ 41 := hI
  clear hI
  obtain ⟨hb0, hi1, hi2⟩ := id hI4
  have hbin := am_in (fun v => ((faS M (lpB M) v * S 45 : Nat) : Int)) (i - 1)
  rw [← hb0] at hbin
  refine lv_iload_n hx hb dX5_giveBy_4 rfl (lv_at hl 3 rfl) ?_
  refine lv_bipush (v := (nI 40)) hx hb dX5_giveBy_5 (by decide) ?_
  refine xgt (tgt := 37) hx hb dX5_giveBy_7 (by decide) (by omega) (by omega) (fun c7 => ?_) (fun c7 => ?_)
  · skip
    refine lv_iload_n hx hb dX5_giveBy_37 rfl (lv_at hl 2 rfl) ?_
    exact rtI F hP hD hS dX5_giveBy_38 (⟨by rw [hb0, show i - 1 = 40 by omega]; rfl, rfl⟩)
  · skip
    refine lv_aload_n hx hb dX5_giveBy_10 rfl (lv_at hl 0 rfl) ?_
    refine lv_aload_n hx hb dX5_giveBy_11 rfl (lv_at hl 1 rfl) ?_
    refine lv_iload_n hx hb dX5_giveBy_12 rfl (lv_at hl 3 rfl) ?_
    refine cVI (As := [.ref m7, .int (nI i)]) (rest := []) F (mc_X5_faultsAt l g m0 m1 m2 m3 m4 m5 m6 m7 m8 m9 m10 m11 m12 m13 m14 kp rn tn ia wl si S M i (hO) (hM) (by omega)) kX5_faultsAt rfl gX5_giveBy_X5_faultsAt rfl rfl ⟨Nat.le_of_ble_eq_true rfl, Nat.le_of_ble_eq_true rfl⟩ hP hD hS [0, 1, 2] [] rfl rfl 0 rfl rfl hl.1 rfl rfl (Nat.le_of_ble_eq_true rfl) dX5_giveBy_13 ⟨Nat.le_of_ble_eq_true rfl, Nat.le_of_ble_eq_true rfl⟩ (fun rz w1 H locs hpo hP hD hS => ?_)
    obtain ⟨rfl, rfl⟩ := hpo
    obtain ⟨hP, hD⟩ := nx (ws' := [(m0, .inr (5, [.ref m1, .ref m2, .ref m3, .int (nI kp), .ref m4, .ref m5, .ref m6, .ref m7, .ref m8, .int (nI rn), .ref m9, .int (nI tn), .int (nI ia), .int (nI wl), .ref m10, .ref m11, .ref m12, .int (nI si), .ref m13, .ref m14])), (m2, .inl (eI g, 49, .inl (fun j => nI (S j)))), (m7, .inl (eI g, 49, .inl (fun j => nI (M j))))]) hP hD [0, 1, 2] (ndB_ok _ rfl) rfl
    refine lv_aload_n hx hb dX5_giveBy_16 rfl (lv_at hl 0 rfl) ?_
    refine lv_aload_n hx hb dX5_giveBy_17 rfl (lv_at hl 1 rfl) ?_
    refine lv_iload_n hx hb dX5_giveBy_18 rfl (lv_at hl 2 rfl) ?_
    refine cVI (As := [.ref m7, .int (nI b)]) (rest := [.int (nI (faS M (lpB M) i * S 45))]) F (mc_X5_faultsAt l g m0 m1 m2 m3 m4 m5 m6 m7 m8 m9 m10 m11 m12 m13 m14 kp rn tn ia wl si S M b (hO) (hM) (by omega)) kX5_faultsAt rfl gX5_giveBy_X5_faultsAt rfl rfl ⟨Nat.le_of_ble_eq_true rfl, Nat.le_of_ble_eq_true rfl⟩ hP hD hS [0, 1, 2] [] rfl rfl 0 rfl rfl hl.1 rfl rfl (Nat.le_of_ble_eq_true rfl) dX5_giveBy_19 ⟨Nat.le_of_ble_eq_true rfl, Nat.le_of_ble_eq_true rfl⟩ (fun rz w1 H locs hpo hP hD hS => ?_)
    obtain ⟨rfl, rfl⟩ := hpo
    obtain ⟨hP, hD⟩ := nx (ws' := [(m0, .inr (5, [.ref m1, .ref m2, .ref m3, .int (nI kp), .ref m4, .ref m5, .ref m6, .ref m7, .ref m8, .int (nI rn), .ref m9, .int (nI tn), .int (nI ia), .int (nI wl), .ref m10, .ref m11, .ref m12, .int (nI si), .ref m13, .ref m14])), (m2, .inl (eI g, 49, .inl (fun j => nI (S j)))), (m7, .inl (eI g, 49, .inl (fun j => nI (M j))))]) hP hD [0, 1, 2] (ndB_ok _ rfl) rfl
    refine xge (tgt := 29) hx hb dX5_giveBy_22 (by decide) (by have := faS_b2 (p := lpB M) hM (show i ≤ 40 by omega) hO.2.2.2.2.2.1; omega) (by have := faS_b2 (p := lpB M) hM (show b ≤ 40 by omega) hO.2.2.2.2.2.1; omega) (fun c22 => ?_) (fun c22 => ?_)
    · skip
      refine lv_iload_n hx hb dX5_giveBy_29 rfl (lv_at hl 2 rfl) ?_
      refine lv_istore_n (lv' := [(2, .int (nI b)), (0, .ref m0), (1, .ref m7), (3, .int (nI i))]) hx hb dX5_giveBy_30 rfl hl (by decide) rfl (fun ls hl => ?_)
      refine lv_iinc (v := (nI (i + 1))) (lv' := [(3, .int (nI (i + 1))), (2, .int (nI b)), (0, .ref m0), (1, .ref m7)]) hx hb dX5_giveBy_31 hl (k := 3) rfl (iincP i 1) (by decide) rfl (fun ls hl => ?_)
      refine lv_goto (tgt := 4) hx hb dX5_giveBy_34 (by decide) ?_
      exact ih4 (i + 1, b) (show b = am (fun v => ((faS M (lpB M) v * S 45 : Nat) : Int)) ((i + 1) - 1) ∧ 2 ≤ (i + 1) ∧ (i + 1) ≤ 41 from (⟨am_old (by omega) hb0 (by exact_mod_cast c22), by omega, by omega⟩)) (show 41 - (i + 1) < 41 - i from (by omega)) _ _ _ hP hD hS (lv_sub hl [2, 3, 1, 0] rfl)
    · skip
      refine lv_iload_n hx hb dX5_giveBy_25 rfl (lv_at hl 3 rfl) ?_
      refine lv_goto (tgt := 30) hx hb dX5_giveBy_26 (by decide) ?_
      refine lv_istore_n (lv' := [(2, .int (nI i)), (0, .ref m0), (1, .ref m7), (3, .int (nI i))]) hx hb dX5_giveBy_30 rfl hl (by decide) rfl (fun ls hl => ?_)
      refine lv_iinc (v := (nI (i + 1))) (lv' := [(3, .int (nI (i + 1))), (2, .int (nI i)), (0, .ref m0), (1, .ref m7)]) hx hb dX5_giveBy_31 hl (k := 3) rfl (iincP i 1) (by decide) rfl (fun ls hl => ?_)
      refine lv_goto (tgt := 4) hx hb dX5_giveBy_34 (by decide) ?_
      exact ih4 (i + 1, i) (show i = am (fun v => ((faS M (lpB M) v * S 45 : Nat) : Int)) ((i + 1) - 1) ∧ 2 ≤ (i + 1) ∧ (i + 1) ≤ 41 from (⟨am_new (by omega) hb0 (by exact_mod_cast c22), by omega, by omega⟩)) (show 41 - (i + 1) < 41 - i from (by omega)) _ _ _ hP hD hS (lv_sub hl [2, 3, 1, 0] rfl)

theorem inX5_isNever_X5 : ∀ w ∈ u_ws RX5 TX5 20, w ∈ wsX5_isNever := fun _ h => (List.mem_cons_of_mem _ (List.mem_append_right _ h))
theorem lkX5_isNever_1 : Cond.fieldLink RX5 19 "StripInFiveStepsModel" "now" "[I" ∈ wsX5_isNever := List.mem_of_getElem? (i := 1) rfl
theorem lkX5_isNever_2 : Cond.fieldLink RX5 28 "StripInFiveStepsModel" "many" "[I" ∈ wsX5_isNever := List.mem_of_getElem? (i := 2) rfl
theorem kX5_isNever : Cal yX5_isNever wsX5_isNever cX5_isNever 3 (some .boolean) 2 := ⟨⟨_, rfl⟩, by decide +kernel⟩
set_option maxHeartbeats 4000000 in
set_option maxRecDepth 100000 in
theorem c_X5_isNever (l : Launch) (g : EE) (m0 : Nat) (m1 : Nat) (m2 : Nat) (m3 : Nat) (m4 : Nat) (m5 : Nat) (m6 : Nat) (m7 : Nat) (m8 : Nat) (m9 : Nat) (m10 : Nat) (m11 : Nat) (m12 : Nat) (m13 : Nat) (m14 : Nat) (kp : Nat) (rn : Nat) (tn : Nat) (ia : Nat) (wl : Nat) (si : Nat) (S : Nat → Nat) (O : Nat → Int32) (Y : Nat → Nat) (Z : Nat → Nat) (v : Nat) (k : Nat) (hO : okS S) (hv : v ≤ 40) (hk : k < 9) : CI l yX5_isNever wsX5_isNever ({ frames := 5, cells := 0, slots := 0, locals := 113 }) g [.ref m0, .int (nI v), .int (nI k)] [(m0, .inr (5, [.ref m1, .ref m2, .ref m3, .int (nI kp), .ref m4, .ref m5, .ref m6, .ref m7, .ref m8, .int (nI rn), .ref m9, .int (nI tn), .int (nI ia), .int (nI wl), .ref m10, .ref m11, .ref m12, .int (nI si), .ref m13, .ref m14])), (m2, .inl (eI g, 49, .inl (fun j => nI (S j)))), (m4, .inl (eI g, 41, .inl O)), (m5, .inl (eI g, 9, .inl (fun j => nI (Y j)))), (m6, .inl (eI g, 9, .inl (fun j => nI (Z j))))] (fun (rz : Int32) (wz : va_W) => ∃ O9 : Nat → Int32, ∃ Y9 : Nat → Nat, ∃ Z9 : Nat → Nat, rz = (nI (if cnS (prt (tlS S) (lpB S) v k) = 0 then 1 else 0)) ∧ wz = [(m0, .inr (5, [.ref m1, .ref m2, .ref m3, .int (nI kp), .ref m4, .ref m5, .ref m6, .ref m7, .ref m8, .int (nI rn), .ref m9, .int (nI tn), .int (nI ia), .int (nI wl), .ref m10, .ref m11, .ref m12, .int (nI si), .ref m13, .ref m14])), (m2, .inl (eI g, 49, .inl (fun j => nI (S j)))), (m4, .inl (eI g, 41, .inl O9)), (m5, .inl (eI g, 9, .inl (fun j => nI (Y9 j)))), (m6, .inl (eI g, 9, .inl (fun j => nI (Z9 j))))]) 0 0 := by
  refine ctI (cc := cX5_isNever) (maxL := 3) (ret := (some .boolean)) (by decide) rfl (Nat.le_of_ble_eq_true rfl) ?_
  intro p_ e_ s_ m_ bl_ mt_ cd_ A ls F hnm hP hD hS hl
  obtain ⟨hx, hb, hml, hown, hts, hK, hX, hA, hrt_, hlocks⟩ := id F
  have hl : lv_has ls 3 [(0, .ref m0), (1, .int (nI v)), (2, .int (nI k))] := hl
  refine lv_aload_n hx hb dX5_isNever_0 rfl (lv_at hl 0 rfl) ?_
  refine lv_aload_n hx hb dX5_isNever_1 rfl (lv_at hl 0 rfl) ?_
  refine xget F hP inX5_isNever_X5 0 rfl rfl 1 (by decide) lkX5_isNever_1 rfl dX5_isNever_2 ?_
  refine lv_iload_n hx hb dX5_isNever_5 rfl (lv_at hl 1 rfl) ?_
  refine cVV (As := [.ref m2, .int (nI v)]) (rest := []) F (nc_X5_part l g m0 m1 m2 m3 m4 m5 m6 m7 m8 m9 m10 m11 m12 m13 m14 kp rn tn ia wl si S O Y Z v (hO) (hv)) kX5_part rfl gX5_isNever_X5_part rfl rfl ⟨Nat.le_of_ble_eq_true rfl, Nat.le_of_ble_eq_true rfl⟩ hP hD hS [0, 1, 2, 3, 4] [] rfl rfl 0 rfl rfl hl.1 rfl rfl (Nat.le_of_ble_eq_true rfl) dX5_isNever_6 ⟨Nat.le_of_ble_eq_true rfl, Nat.le_of_ble_eq_true rfl⟩ (fun w1 H locs hpo hP hD hS => ?_)
  subst hpo
  obtain ⟨hP, hD⟩ := nx (ws' := [(m0, .inr (5, [.ref m1, .ref m2, .ref m3, .int (nI kp), .ref m4, .ref m5, .ref m6, .ref m7, .ref m8, .int (nI rn), .ref m9, .int (nI tn), .int (nI ia), .int (nI wl), .ref m10, .ref m11, .ref m12, .int (nI si), .ref m13, .ref m14])), (m2, .inl (eI g, 49, .inl (fun j => nI (S j)))), (m4, .inl (eI g, 41, .inl (ofF O S (tlS S) v 40))), (m5, .inl (eI g, 9, .inl (fun j => nI ((myF S S v) j)))), (m6, .inl (eI g, 9, .inl (fun j => nI ((weF S S v) j))))]) hP hD [0, 1, 2, 3, 4] (ndB_ok _ rfl) rfl
  refine lv_aload_n hx hb dX5_isNever_9 rfl (lv_at hl 0 rfl) ?_
  refine xget F hP inX5_isNever_X5 0 rfl rfl 5 (by decide) lkX5_isNever_2 rfl dX5_isNever_10 ?_
  refine lv_iload_n hx hb dX5_isNever_13 rfl (lv_at hl 2 rfl) ?_
  refine xald F hP 3 (v := (nI ((myF S S v) k))) rfl (by omega) (by omega) rfl dX5_isNever_14 ?_
  refine zne (tgt := 22) hx hb dX5_isNever_15 (by decide) (by have := cnS_le (prt (tlS S) (lpB S) v k); unfold myF; omega) (fun c15 => ?_) (fun c15 => ?_)
  · skip
    refine lv_iconst (v := (nI 0)) hx hb dX5_isNever_22 (by decide) ?_
    exact rtZ F hP hD hS dX5_isNever_23 (rfl) (⟨_, _, _, by rw [if_neg (show ¬ cnS (prt (tlS S) (lpB S) v k) = 0 from c15)], rfl⟩)
  · skip
    refine lv_iconst (v := (nI 1)) hx hb dX5_isNever_18 (by decide) ?_
    refine lv_goto (tgt := 23) hx hb dX5_isNever_19 (by decide) ?_
    exact rtZ F hP hD hS dX5_isNever_23 (rfl) (⟨_, _, _, by rw [if_pos (show cnS (prt (tlS S) (lpB S) v k) = 0 from c15)], rfl⟩)
