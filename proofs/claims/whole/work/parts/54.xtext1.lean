theorem inX5_oneOf_X5 : ∀ w ∈ u_ws RX5 TX5 20, w ∈ wsX5_oneOf := fun _ h => (List.mem_cons_of_mem _ (List.mem_append_right _ h))
theorem lkX5_oneOf_1 : Cond.fieldLink RX5 186 "StripInFiveStepsModel" "well" "Z" ∈ wsX5_oneOf := List.mem_of_getElem? (i := 1) rfl
theorem lkX5_oneOf_2 : Cond.fieldLink RX5 189 "StripInFiveStepsModel" "at" "I" ∈ wsX5_oneOf := List.mem_of_getElem? (i := 2) rfl
theorem lkX5_oneOf_3 : Cond.fieldLink RX5 183 "StripInFiveStepsModel" "taped" "I" ∈ wsX5_oneOf := List.mem_of_getElem? (i := 3) rfl
theorem lkX5_oneOf_4 : Cond.fieldLink RX5 40 "StripInFiveStepsModel" "tape" "[I" ∈ wsX5_oneOf := List.mem_of_getElem? (i := 4) rfl
theorem kX5_oneOf : Cal yX5_oneOf wsX5_oneOf cX5_oneOf 3 (some .int) 1 := ⟨⟨_, rfl⟩, by decide +kernel⟩
set_option maxHeartbeats 1000000 in
set_option maxRecDepth 100000 in
theorem o6_X5_oneOf (l : Launch) (g : EE) (m0 : Nat) (m1 : Nat) (m2 : Nat) (m3 : Nat) (m4 : Nat) (m5 : Nat) (m6 : Nat) (m7 : Nat) (m8 : Nat) (m9 : Nat) (m10 : Nat) (m11 : Nat) (m12 : Nat) (m13 : Nat) (m14 : Nat) (kp : Nat) (rn : Nat) (tn_ : Nat) (ia : Nat) (wl : Nat) (si : Nat) (tx : Nat → Nat) (f_ : Nat → Nat) (htn : tn_ ≤ 96) (htx : ∀ j, tx j < 256) (hia : ia ≤ 96) (hwl : wl ≤ 1) (hf : ∀ j, f_ j < 256) : CI l yX5_oneOf wsX5_oneOf ({ frames := 0, cells := 0, slots := 0, locals := 0 }) g [.ref m0, .ref m10] [(m0, .inr (5, [.ref m1, .ref m2, .ref m3, .int (nI kp), .ref m4, .ref m5, .ref m6, .ref m7, .ref m8, .int (nI rn), .ref m9, .int (nI tn_), .int (nI ia), .int (nI wl), .ref m10, .ref m11, .ref m12, .int (nI si), .ref m13, .ref m14])), (m9, .inl (eI g, 96, .inl (fun j => nI (tx j)))), (m10, .inl (eC g, 6, .inl (fun j => nI (f_ j))))] (fun (rz : Int32) (wz : va_W) => ∃ r9 : Nat, ∃ a9 : Nat, ∃ w9 : Nat, rz = (nI r9) ∧ wz = [(m0, .inr (5, [.ref m1, .ref m2, .ref m3, .int (nI kp), .ref m4, .ref m5, .ref m6, .ref m7, .ref m8, .int (nI rn), .ref m9, .int (nI tn_), .int (nI a9), .int (nI w9), .ref m10, .ref m11, .ref m12, .int (nI si), .ref m13, .ref m14])), (m9, .inl (eI g, 96, .inl (fun j => nI (tx j)))), (m10, .inl (eC g, 6, .inl (fun j => nI (f_ j))))] ∧ (a9, w9) = st1 (fun c_ => decide (ixN f_ c_ 6 0 < 6)) tx tn_ (ia, wl) ∧ (w9 = 1 → r9 = ixN f_ (tx ia) 6 0) ∧ r9 < 6 ∧ w9 ≤ 1 ∧ a9 ≤ 96 ∧ (w9 = 0 → r9 = 0)) 0 0 := by
  refine ctI (cc := cX5_oneOf) (maxL := 3) (ret := (some .int)) (by decide) rfl (Nat.le_of_ble_eq_true rfl) ?_
  intro p_ e_ s_ m_ bl_ mt_ cd_ A ls F hnm hP hD hS hl
  obtain ⟨hx, hb, hml, hown, hts, hK, hX, hA, hrt_, hlocks⟩ := id F
  have hl : lv_has ls 3 [(0, .ref m0), (1, .ref m10)] := hl
  refine lv_iconst (v := (nI 0)) hx hb dX5_oneOf_0 (by decide) ?_
  refine lv_istore_n (lv' := [(2, .int (nI 0)), (0, .ref m0), (1, .ref m10)]) hx hb dX5_oneOf_1 rfl hl (by decide) rfl (fun ls hl => ?_)
  refine xlo (σ := Nat) 3 (fun (k : Nat) => [(0, .ref m0), (1, .ref m10), (2, .int (nI k))]) (fun (k : Nat) => [(m0, .inr (5, [.ref m1, .ref m2, .ref m3, .int (nI kp), .ref m4, .ref m5, .ref m6, .ref m7, .ref m8, .int (nI rn), .ref m9, .int (nI tn_), .int (nI ia), .int (nI wl), .ref m10, .ref m11, .ref m12, .int (nI si), .ref m13, .ref m14])), (m9, .inl (eI g, 96, .inl (fun j => nI (tx j)))), (m10, .inl (eC g, 6, .inl (fun j => nI (f_ j))))]) (fun (k : Nat) => (wl = 1 ∧ ia < tn_ → ixN f_ (tx ia) 6 0 = ixN f_ (tx ia) (6 - k) k) ∧ k ≤ 6) (fun (k : Nat) => 6 - k) (fun xz_ hI ih2 H locs ls hP hD hS hl => ?_) 0 (show (wl = 1 ∧ ia < tn_ → ixN f_ (tx ia) 6 0 = ixN f_ (tx ia) (6 - 0) 0) ∧ 0 ≤ 6 from (⟨fun _ => rfl, by omega⟩)) hP hD hS (lv_sub hl [1, 2, 0] rfl)
  obtain ⟨k, rfl⟩ : ∃ z, z = xz_ := ⟨_, rfl⟩
  have hP : va_P (eD g) vwCl [(m0, .inr (5, [.ref m1, .ref m2, .ref m3, .int (nI kp), .ref m4, .ref m5, .ref m6, .ref m7, .ref m8, .int (nI rn), .ref m9, .int (nI tn_), .int (nI ia), .int (nI wl), .ref m10, .ref m11, .ref m12, .int (nI si), .ref m13, .ref m14])), (m9, .inl (eI g, 96, .inl (fun j => nI (tx j)))), (m10, .inl (eC g, 6, .inl (fun j => nI (f_ j))))] H := hP
  have hD : va_D A [(m0, .inr (5, [.ref m1, .ref m2, .ref m3, .int (nI kp), .ref m4, .ref m5, .ref m6, .ref m7, .ref m8, .int (nI rn), .ref m9, .int (nI tn_), .int (nI ia), .int (nI wl), .ref m10, .ref m11, .ref m12, .int (nI si), .ref m13, .ref m14])), (m9, .inl (eI g, 96, .inl (fun j => nI (tx j)))), (m10, .inl (eC g, 6, .inl (fun j => nI (f_ j))))] := hD
  have hl : lv_has ls 3 [(0, .ref m0), (1, .ref m10), (2, .int (nI k))] := hl
  have hI2 : (wl = 1 ∧ ia < tn_ → ixN f_ (tx ia) 6 0 = ixN f_ (tx ia) (6 - k) k) ∧ k ≤ 6 := hI
  clear hI
  obtain ⟨hix0, hk⟩ := id hI2
  have hix : wl = 1 ∧ ia < tn_ → _ := hix0
  refine lv_iload_n hx hb dX5_oneOf_2 rfl (lv_at hl 2 rfl) ?_
  refine lv_aload_n hx hb dX5_oneOf_3 rfl (lv_at hl 1 rfl) ?_
  refine va_alen hx hb hK hP 2 2 rfl rfl (v := nI 6) rfl dX5_oneOf_4 ?_
  refine xge (tgt := 59) hx hb dX5_oneOf_5 (by decide) (by omega) (by omega) (fun c5 => ?_) (fun c5 => ?_)
  · skip
    refine lv_aload_n hx hb dX5_oneOf_59 rfl (lv_at hl 0 rfl) ?_
    refine lv_iconst (v := (nI 0)) hx hb dX5_oneOf_60 (by decide) ?_
    refine xput F hP hD hS inX5_oneOf_X5 tyX5 tyX5_ok nmX5 0 rfl rfl 13 (by decide) lkX5_oneOf_1 rfl rfl rfl (Nat.le_of_ble_eq_true rfl) dX5_oneOf_61 (fun H locs hP hD hS => ?_)
    have hP : va_P (eD g) vwCl [(m0, .inr (5, [.ref m1, .ref m2, .ref m3, .int (nI kp), .ref m4, .ref m5, .ref m6, .ref m7, .ref m8, .int (nI rn), .ref m9, .int (nI tn_), .int (nI ia), .int (nI 0), .ref m10, .ref m11, .ref m12, .int (nI si), .ref m13, .ref m14])), (m9, .inl (eI g, 96, .inl (fun j => nI (tx j)))), (m10, .inl (eC g, 6, .inl (fun j => nI (f_ j))))] H := hP
    have hD : va_D A [(m0, .inr (5, [.ref m1, .ref m2, .ref m3, .int (nI kp), .ref m4, .ref m5, .ref m6, .ref m7, .ref m8, .int (nI rn), .ref m9, .int (nI tn_), .int (nI ia), .int (nI 0), .ref m10, .ref m11, .ref m12, .int (nI si), .ref m13, .ref m14])), (m9, .inl (eI g, 96, .inl (fun j => nI (tx j)))), (m10, .inl (eC g, 6, .inl (fun j => nI (f_ j))))] := hD
    refine lv_iconst (v := (nI 0)) hx hb dX5_oneOf_64 (by decide) ?_
    exact rtI F hP hD hS dX5_oneOf_65 (⟨_, _, _, rfl, rfl, by rw [st1_no (fun z => by have q := of_decide_eq_true z.2.2; rw [hix (by omega), ix_end (by omega)] at q; omega)], fun z => absurd z (by decide), by omega, by omega, by omega, fun _ => rfl⟩)
  · skip
    refine lv_aload_n hx hb dX5_oneOf_8 rfl (lv_at hl 0 rfl) ?_
    refine xget F hP inX5_oneOf_X5 0 rfl rfl 13 (by decide) lkX5_oneOf_1 rfl dX5_oneOf_9 ?_
    refine zeq (tgt := 53) hx hb dX5_oneOf_12 (by decide) (by omega) (fun c12 => ?_) (fun c12 => ?_)
    · skip
      refine lv_iinc (v := (nI (k + 1))) (lv' := [(2, .int (nI (k + 1))), (0, .ref m0), (1, .ref m10)]) hx hb dX5_oneOf_53 hl (k := 2) rfl (iincP k 1) (by decide) rfl (fun ls hl => ?_)
      refine lv_goto (tgt := 2) hx hb dX5_oneOf_56 (by decide) ?_
      exact ih2 (k + 1) (show (wl = 1 ∧ ia < tn_ → ixN f_ (tx ia) 6 0 = ixN f_ (tx ia) (6 - (k + 1)) (k + 1)) ∧ (k + 1) ≤ 6 from (⟨fun z => absurd z (by omega), by omega⟩)) (show 6 - (k + 1) < 6 - k from (by omega)) _ _ _ hP hD hS (lv_sub hl [1, 2, 0] rfl)
    · skip
      refine lv_aload_n hx hb dX5_oneOf_15 rfl (lv_at hl 0 rfl) ?_
      refine xget F hP inX5_oneOf_X5 0 rfl rfl 12 (by decide) lkX5_oneOf_2 rfl dX5_oneOf_16 ?_
      refine lv_aload_n hx hb dX5_oneOf_19 rfl (lv_at hl 0 rfl) ?_
      refine xget F hP inX5_oneOf_X5 0 rfl rfl 11 (by decide) lkX5_oneOf_3 rfl dX5_oneOf_20 ?_
      refine xge (tgt := 53) hx hb dX5_oneOf_23 (by decide) (by omega) (by omega) (fun c23 => ?_) (fun c23 => ?_)
      · skip
        refine lv_iinc (v := (nI (k + 1))) (lv' := [(2, .int (nI (k + 1))), (0, .ref m0), (1, .ref m10)]) hx hb dX5_oneOf_53 hl (k := 2) rfl (iincP k 1) (by decide) rfl (fun ls hl => ?_)
        refine lv_goto (tgt := 2) hx hb dX5_oneOf_56 (by decide) ?_
        exact ih2 (k + 1) (show (wl = 1 ∧ ia < tn_ → ixN f_ (tx ia) 6 0 = ixN f_ (tx ia) (6 - (k + 1)) (k + 1)) ∧ (k + 1) ≤ 6 from (⟨fun z => absurd z (by omega), by omega⟩)) (show 6 - (k + 1) < 6 - k from (by omega)) _ _ _ hP hD hS (lv_sub hl [1, 2, 0] rfl)
      · skip
        refine lv_aload_n hx hb dX5_oneOf_26 rfl (lv_at hl 0 rfl) ?_
        refine xget F hP inX5_oneOf_X5 0 rfl rfl 10 (by decide) lkX5_oneOf_4 rfl dX5_oneOf_27 ?_
        refine lv_aload_n hx hb dX5_oneOf_30 rfl (lv_at hl 0 rfl) ?_
        refine xget F hP inX5_oneOf_X5 0 rfl rfl 12 (by decide) lkX5_oneOf_2 rfl dX5_oneOf_31 ?_
        refine xald F hP 1 (v := (nI (tx ia))) rfl (by omega) (by omega) rfl dX5_oneOf_34 ?_
        have hbd1 := htx (ia)
        refine lv_aload_n hx hb dX5_oneOf_35 rfl (lv_at hl 1 rfl) ?_
        refine lv_iload_n hx hb dX5_oneOf_36 rfl (lv_at hl 2 rfl) ?_
        refine xald_c F hP 2 (v := (nI (f_ k))) rfl (by omega) (by omega) rfl dX5_oneOf_37 ?_
        have hbd2 := hf (k)
        refine xne (tgt := 53) hx hb dX5_oneOf_38 (by decide) (by omega) (by omega) (fun c38 => ?_) (fun c38 => ?_)
        · skip
          refine lv_iinc (v := (nI (k + 1))) (lv' := [(2, .int (nI (k + 1))), (0, .ref m0), (1, .ref m10)]) hx hb dX5_oneOf_53 hl (k := 2) rfl (iincP k 1) (by decide) rfl (fun ls hl => ?_)
          refine lv_goto (tgt := 2) hx hb dX5_oneOf_56 (by decide) ?_
          exact ih2 (k + 1) (show (wl = 1 ∧ ia < tn_ → ixN f_ (tx ia) 6 0 = ixN f_ (tx ia) (6 - (k + 1)) (k + 1)) ∧ (k + 1) ≤ 6 from (⟨fun z => (hix z).trans (ix_no (by omega) (fun q => c38 q.symm)), by omega⟩)) (show 6 - (k + 1) < 6 - k from (by omega)) _ _ _ hP hD hS (lv_sub hl [1, 2, 0] rfl)
        · skip
          refine lv_aload_n hx hb dX5_oneOf_41 rfl (lv_at hl 0 rfl) ?_
          refine lv_dup hx hb dX5_oneOf_42 rfl ?_
          refine xget F hP inX5_oneOf_X5 0 rfl rfl 12 (by decide) lkX5_oneOf_2 rfl dX5_oneOf_43 ?_
          refine lv_iconst (v := (nI 1)) hx hb dX5_oneOf_46 (by decide) ?_
          refine xadd hx hb dX5_oneOf_47 ?_
          refine xput F hP hD hS inX5_oneOf_X5 tyX5 tyX5_ok nmX5 0 rfl rfl 12 (by decide) lkX5_oneOf_2 rfl rfl rfl (Nat.le_of_ble_eq_true rfl) dX5_oneOf_48 (fun H locs hP hD hS => ?_)
          have hP : va_P (eD g) vwCl [(m0, .inr (5, [.ref m1, .ref m2, .ref m3, .int (nI kp), .ref m4, .ref m5, .ref m6, .ref m7, .ref m8, .int (nI rn), .ref m9, .int (nI tn_), .int (nI (ia + 1)), .int (nI wl), .ref m10, .ref m11, .ref m12, .int (nI si), .ref m13, .ref m14])), (m9, .inl (eI g, 96, .inl (fun j => nI (tx j)))), (m10, .inl (eC g, 6, .inl (fun j => nI (f_ j))))] H := hP
          have hD : va_D A [(m0, .inr (5, [.ref m1, .ref m2, .ref m3, .int (nI kp), .ref m4, .ref m5, .ref m6, .ref m7, .ref m8, .int (nI rn), .ref m9, .int (nI tn_), .int (nI (ia + 1)), .int (nI wl), .ref m10, .ref m11, .ref m12, .int (nI si), .ref m13, .ref m14])), (m9, .inl (eI g, 96, .inl (fun j => nI (tx j)))), (m10, .inl (eC g, 6, .inl (fun j => nI (f_ j))))] := hD
          refine lv_iload_n hx hb dX5_oneOf_51 rfl (lv_at hl 2 rfl) ?_
          exact rtI F hP hD hS dX5_oneOf_52 (⟨_, _, _, rfl, rfl, by rw [st1_yes (by omega) (by omega) (show decide (ixN f_ (tx ia) 6 0 < 6) = true from decide_eq_true (by rw [hix (by omega), ix_yes (by omega) c38.symm]; omega))]; exact congrArg (fun z => (ia + 1, z)) (show wl = 1 by omega), fun _ => by rw [hix (by omega), ix_yes (by omega) c38.symm], by omega, by omega, by omega, fun z => by omega⟩)

set_option maxHeartbeats 1000000 in
set_option maxRecDepth 100000 in
theorem o4_X5_oneOf (l : Launch) (g : EE) (m0 : Nat) (m1 : Nat) (m2 : Nat) (m3 : Nat) (m4 : Nat) (m5 : Nat) (m6 : Nat) (m7 : Nat) (m8 : Nat) (m9 : Nat) (m10 : Nat) (m11 : Nat) (m12 : Nat) (m13 : Nat) (m14 : Nat) (kp : Nat) (rn : Nat) (tn_ : Nat) (ia : Nat) (wl : Nat) (si : Nat) (tx : Nat → Nat) (f_ : Nat → Nat) (htn : tn_ ≤ 96) (htx : ∀ j, tx j < 256) (hia : ia ≤ 96) (hwl : wl ≤ 1) (hf : ∀ j, f_ j < 256) : CI l yX5_oneOf wsX5_oneOf ({ frames := 0, cells := 0, slots := 0, locals := 0 }) g [.ref m0, .ref m11] [(m0, .inr (5, [.ref m1, .ref m2, .ref m3, .int (nI kp), .ref m4, .ref m5, .ref m6, .ref m7, .ref m8, .int (nI rn), .ref m9, .int (nI tn_), .int (nI ia), .int (nI wl), .ref m10, .ref m11, .ref m12, .int (nI si), .ref m13, .ref m14])), (m9, .inl (eI g, 96, .inl (fun j => nI (tx j)))), (m11, .inl (eC g, 4, .inl (fun j => nI (f_ j))))] (fun (rz : Int32) (wz : va_W) => ∃ r9 : Nat, ∃ a9 : Nat, ∃ w9 : Nat, rz = (nI r9) ∧ wz = [(m0, .inr (5, [.ref m1, .ref m2, .ref m3, .int (nI kp), .ref m4, .ref m5, .ref m6, .ref m7, .ref m8, .int (nI rn), .ref m9, .int (nI tn_), .int (nI a9), .int (nI w9), .ref m10, .ref m11, .ref m12, .int (nI si), .ref m13, .ref m14])), (m9, .inl (eI g, 96, .inl (fun j => nI (tx j)))), (m11, .inl (eC g, 4, .inl (fun j => nI (f_ j))))] ∧ (a9, w9) = st1 (fun c_ => decide (ixN f_ c_ 4 0 < 4)) tx tn_ (ia, wl) ∧ (w9 = 1 → r9 = ixN f_ (tx ia) 4 0) ∧ r9 < 4 ∧ w9 ≤ 1 ∧ a9 ≤ 96 ∧ (w9 = 0 → r9 = 0)) 0 0 := by
  refine ctI (cc := cX5_oneOf) (maxL := 3) (ret := (some .int)) (by decide) rfl (Nat.le_of_ble_eq_true rfl) ?_
  intro p_ e_ s_ m_ bl_ mt_ cd_ A ls F hnm hP hD hS hl
  obtain ⟨hx, hb, hml, hown, hts, hK, hX, hA, hrt_, hlocks⟩ := id F
  have hl : lv_has ls 3 [(0, .ref m0), (1, .ref m11)] := hl
  refine lv_iconst (v := (nI 0)) hx hb dX5_oneOf_0 (by decide) ?_
  refine lv_istore_n (lv' := [(2, .int (nI 0)), (0, .ref m0), (1, .ref m11)]) hx hb dX5_oneOf_1 rfl hl (by decide) rfl (fun ls hl => ?_)
  refine xlo (σ := Nat) 3 (fun (k : Nat) => [(0, .ref m0), (1, .ref m11), (2, .int (nI k))]) (fun (k : Nat) => [(m0, .inr (5, [.ref m1, .ref m2, .ref m3, .int (nI kp), .ref m4, .ref m5, .ref m6, .ref m7, .ref m8, .int (nI rn), .ref m9, .int (nI tn_), .int (nI ia), .int (nI wl), .ref m10, .ref m11, .ref m12, .int (nI si), .ref m13, .ref m14])), (m9, .inl (eI g, 96, .inl (fun j => nI (tx j)))), (m11, .inl (eC g, 4, .inl (fun j => nI (f_ j))))]) (fun (k : Nat) => (wl = 1 ∧ ia < tn_ → ixN f_ (tx ia) 4 0 = ixN f_ (tx ia) (4 - k) k) ∧ k ≤ 4) (fun (k : Nat) => 4 - k) (fun xz_ hI ih2 H locs ls hP hD hS hl => ?_) 0 (show (wl = 1 ∧ ia < tn_ → ixN f_ (tx ia) 4 0 = ixN f_ (tx ia) (4 - 0) 0) ∧ 0 ≤ 4 from (⟨fun _ => rfl, by omega⟩)) hP hD hS (lv_sub hl [1, 2, 0] rfl)
  obtain ⟨k, rfl⟩ : ∃ z, z = xz_ := ⟨_, rfl⟩
  have hP : va_P (eD g) vwCl [(m0, .inr (5, [.ref m1, .ref m2, .ref m3, .int (nI kp), .ref m4, .ref m5, .ref m6, .ref m7, .ref m8, .int (nI rn), .ref m9, .int (nI tn_), .int (nI ia), .int (nI wl), .ref m10, .ref m11, .ref m12, .int (nI si), .ref m13, .ref m14])), (m9, .inl (eI g, 96, .inl (fun j => nI (tx j)))), (m11, .inl (eC g, 4, .inl (fun j => nI (f_ j))))] H := hP
  have hD : va_D A [(m0, .inr (5, [.ref m1, .ref m2, .ref m3, .int (nI kp), .ref m4, .ref m5, .ref m6, .ref m7, .ref m8, .int (nI rn), .ref m9, .int (nI tn_), .int (nI ia), .int (nI wl), .ref m10, .ref m11, .ref m12, .int (nI si), .ref m13, .ref m14])), (m9, .inl (eI g, 96, .inl (fun j => nI (tx j)))), (m11, .inl (eC g, 4, .inl (fun j => nI (f_ j))))] := hD
  have hl : lv_has ls 3 [(0, .ref m0), (1, .ref m11), (2, .int (nI k))] := hl
  have hI2 : (wl = 1 ∧ ia < tn_ → ixN f_ (tx ia) 4 0 = ixN f_ (tx ia) (4 - k) k) ∧ k ≤ 4 := hI
  clear hI
  obtain ⟨hix0, hk⟩ := id hI2
  have hix : wl = 1 ∧ ia < tn_ → _ := hix0
  refine lv_iload_n hx hb dX5_oneOf_2 rfl (lv_at hl 2 rfl) ?_
  refine lv_aload_n hx hb dX5_oneOf_3 rfl (lv_at hl 1 rfl) ?_
  refine va_alen hx hb hK hP 2 2 rfl rfl (v := nI 4) rfl dX5_oneOf_4 ?_
  refine xge (tgt := 59) hx hb dX5_oneOf_5 (by decide) (by omega) (by omega) (fun c5 => ?_) (fun c5 => ?_)
  · skip
    refine lv_aload_n hx hb dX5_oneOf_59 rfl (lv_at hl 0 rfl) ?_
    refine lv_iconst (v := (nI 0)) hx hb dX5_oneOf_60 (by decide) ?_
    refine xput F hP hD hS inX5_oneOf_X5 tyX5 tyX5_ok nmX5 0 rfl rfl 13 (by decide) lkX5_oneOf_1 rfl rfl rfl (Nat.le_of_ble_eq_true rfl) dX5_oneOf_61 (fun H locs hP hD hS => ?_)
    have hP : va_P (eD g) vwCl [(m0, .inr (5, [.ref m1, .ref m2, .ref m3, .int (nI kp), .ref m4, .ref m5, .ref m6, .ref m7, .ref m8, .int (nI rn), .ref m9, .int (nI tn_), .int (nI ia), .int (nI 0), .ref m10, .ref m11, .ref m12, .int (nI si), .ref m13, .ref m14])), (m9, .inl (eI g, 96, .inl (fun j => nI (tx j)))), (m11, .inl (eC g, 4, .inl (fun j => nI (f_ j))))] H := hP
    have hD : va_D A [(m0, .inr (5, [.ref m1, .ref m2, .ref m3, .int (nI kp), .ref m4, .ref m5, .ref m6, .ref m7, .ref m8, .int (nI rn), .ref m9, .int (nI tn_), .int (nI ia), .int (nI 0), .ref m10, .ref m11, .ref m12, .int (nI si), .ref m13, .ref m14])), (m9, .inl (eI g, 96, .inl (fun j => nI (tx j)))), (m11, .inl (eC g, 4, .inl (fun j => nI (f_ j))))] := hD
    refine lv_iconst (v := (nI 0)) hx hb dX5_oneOf_64 (by decide) ?_
    exact rtI F hP hD hS dX5_oneOf_65 (⟨_, _, _, rfl, rfl, by rw [st1_no (fun z => by have q := of_decide_eq_true z.2.2; rw [hix (by omega), ix_end (by omega)] at q; omega)], fun z => absurd z (by decide), by omega, by omega, by omega, fun _ => rfl⟩)
  · skip
    refine lv_aload_n hx hb dX5_oneOf_8 rfl (lv_at hl 0 rfl) ?_
    refine xget F hP inX5_oneOf_X5 0 rfl rfl 13 (by decide) lkX5_oneOf_1 rfl dX5_oneOf_9 ?_
    refine zeq (tgt := 53) hx hb dX5_oneOf_12 (by decide) (by omega) (fun c12 => ?_) (fun c12 => ?_)
    · skip
      refine lv_iinc (v := (nI (k + 1))) (lv' := [(2, .int (nI (k + 1))), (0, .ref m0), (1, .ref m11)]) hx hb dX5_oneOf_53 hl (k := 2) rfl (iincP k 1) (by decide) rfl (fun ls hl => ?_)
      refine lv_goto (tgt := 2) hx hb dX5_oneOf_56 (by decide) ?_
      exact ih2 (k + 1) (show (wl = 1 ∧ ia < tn_ → ixN f_ (tx ia) 4 0 = ixN f_ (tx ia) (4 - (k + 1)) (k + 1)) ∧ (k + 1) ≤ 4 from (⟨fun z => absurd z (by omega), by omega⟩)) (show 4 - (k + 1) < 4 - k from (by omega)) _ _ _ hP hD hS (lv_sub hl [1, 2, 0] rfl)
    · skip
      refine lv_aload_n hx hb dX5_oneOf_15 rfl (lv_at hl 0 rfl) ?_
      refine xget F hP inX5_oneOf_X5 0 rfl rfl 12 (by decide) lkX5_oneOf_2 rfl dX5_oneOf_16 ?_
      refine lv_aload_n hx hb dX5_oneOf_19 rfl (lv_at hl 0 rfl) ?_
      refine xget F hP inX5_oneOf_X5 0 rfl rfl 11 (by decide) lkX5_oneOf_3 rfl dX5_oneOf_20 ?_
      refine xge (tgt := 53) hx hb dX5_oneOf_23 (by decide) (by omega) (by omega) (fun c23 => ?_) (fun c23 => ?_)
      · skip
        refine lv_iinc (v := (nI (k + 1))) (lv' := [(2, .int (nI (k + 1))), (0, .ref m0), (1, .ref m11)]) hx hb dX5_oneOf_53 hl (k := 2) rfl (iincP k 1) (by decide) rfl (fun ls hl => ?_)
        refine lv_goto (tgt := 2) hx hb dX5_oneOf_56 (by decide) ?_
        exact ih2 (k + 1) (show (wl = 1 ∧ ia < tn_ → ixN f_ (tx ia) 4 0 = ixN f_ (tx ia) (4 - (k + 1)) (k + 1)) ∧ (k + 1) ≤ 4 from (⟨fun z => absurd z (by omega), by omega⟩)) (show 4 - (k + 1) < 4 - k from (by omega)) _ _ _ hP hD hS (lv_sub hl [1, 2, 0] rfl)
      · skip
        refine lv_aload_n hx hb dX5_oneOf_26 rfl (lv_at hl 0 rfl) ?_
        refine xget F hP inX5_oneOf_X5 0 rfl rfl 10 (by decide) lkX5_oneOf_4 rfl dX5_oneOf_27 ?_
        refine lv_aload_n hx hb dX5_oneOf_30 rfl (lv_at hl 0 rfl) ?_
        refine xget F hP inX5_oneOf_X5 0 rfl rfl 12 (by decide) lkX5_oneOf_2 rfl dX5_oneOf_31 ?_
        refine xald F hP 1 (v := (nI (tx ia))) rfl (by omega) (by omega) rfl dX5_oneOf_34 ?_
        have hbd1 := htx (ia)
        refine lv_aload_n hx hb dX5_oneOf_35 rfl (lv_at hl 1 rfl) ?_
        refine lv_iload_n hx hb dX5_oneOf_36 rfl (lv_at hl 2 rfl) ?_
        refine xald_c F hP 2 (v := (nI (f_ k))) rfl (by omega) (by omega) rfl dX5_oneOf_37 ?_
        have hbd2 := hf (k)
        refine xne (tgt := 53) hx hb dX5_oneOf_38 (by decide) (by omega) (by omega) (fun c38 => ?_) (fun c38 => ?_)
        · skip
          refine lv_iinc (v := (nI (k + 1))) (lv' := [(2, .int (nI (k + 1))), (0, .ref m0), (1, .ref m11)]) hx hb dX5_oneOf_53 hl (k := 2) rfl (iincP k 1) (by decide) rfl (fun ls hl => ?_)
          refine lv_goto (tgt := 2) hx hb dX5_oneOf_56 (by decide) ?_
          exact ih2 (k + 1) (show (wl = 1 ∧ ia < tn_ → ixN f_ (tx ia) 4 0 = ixN f_ (tx ia) (4 - (k + 1)) (k + 1)) ∧ (k + 1) ≤ 4 from (⟨fun z => (hix z).trans (ix_no (by omega) (fun q => c38 q.symm)), by omega⟩)) (show 4 - (k + 1) < 4 - k from (by omega)) _ _ _ hP hD hS (lv_sub hl [1, 2, 0] rfl)
        · skip
          refine lv_aload_n hx hb dX5_oneOf_41 rfl (lv_at hl 0 rfl) ?_
          refine lv_dup hx hb dX5_oneOf_42 rfl ?_
          refine xget F hP inX5_oneOf_X5 0 rfl rfl 12 (by decide) lkX5_oneOf_2 rfl dX5_oneOf_43 ?_
          refine lv_iconst (v := (nI 1)) hx hb dX5_oneOf_46 (by decide) ?_
          refine xadd hx hb dX5_oneOf_47 ?_
          refine xput F hP hD hS inX5_oneOf_X5 tyX5 tyX5_ok nmX5 0 rfl rfl 12 (by decide) lkX5_oneOf_2 rfl rfl rfl (Nat.le_of_ble_eq_true rfl) dX5_oneOf_48 (fun H locs hP hD hS => ?_)
          have hP : va_P (eD g) vwCl [(m0, .inr (5, [.ref m1, .ref m2, .ref m3, .int (nI kp), .ref m4, .ref m5, .ref m6, .ref m7, .ref m8, .int (nI rn), .ref m9, .int (nI tn_), .int (nI (ia + 1)), .int (nI wl), .ref m10, .ref m11, .ref m12, .int (nI si), .ref m13, .ref m14])), (m9, .inl (eI g, 96, .inl (fun j => nI (tx j)))), (m11, .inl (eC g, 4, .inl (fun j => nI (f_ j))))] H := hP
          have hD : va_D A [(m0, .inr (5, [.ref m1, .ref m2, .ref m3, .int (nI kp), .ref m4, .ref m5, .ref m6, .ref m7, .ref m8, .int (nI rn), .ref m9, .int (nI tn_), .int (nI (ia + 1)), .int (nI wl), .ref m10, .ref m11, .ref m12, .int (nI si), .ref m13, .ref m14])), (m9, .inl (eI g, 96, .inl (fun j => nI (tx j)))), (m11, .inl (eC g, 4, .inl (fun j => nI (f_ j))))] := hD
          refine lv_iload_n hx hb dX5_oneOf_51 rfl (lv_at hl 2 rfl) ?_
          exact rtI F hP hD hS dX5_oneOf_52 (⟨_, _, _, rfl, rfl, by rw [st1_yes (by omega) (by omega) (show decide (ixN f_ (tx ia) 4 0 < 4) = true from decide_eq_true (by rw [hix (by omega), ix_yes (by omega) c38.symm]; omega))]; exact congrArg (fun z => (ia + 1, z)) (show wl = 1 by omega), fun _ => by rw [hix (by omega), ix_yes (by omega) c38.symm], by omega, by omega, by omega, fun z => by omega⟩)

set_option maxHeartbeats 1000000 in
set_option maxRecDepth 100000 in
theorem o5_X5_oneOf (l : Launch) (g : EE) (m0 : Nat) (m1 : Nat) (m2 : Nat) (m3 : Nat) (m4 : Nat) (m5 : Nat) (m6 : Nat) (m7 : Nat) (m8 : Nat) (m9 : Nat) (m10 : Nat) (m11 : Nat) (m12 : Nat) (m13 : Nat) (m14 : Nat) (kp : Nat) (rn : Nat) (tn_ : Nat) (ia : Nat) (wl : Nat) (si : Nat) (tx : Nat → Nat) (f_ : Nat → Nat) (htn : tn_ ≤ 96) (htx : ∀ j, tx j < 256) (hia : ia ≤ 96) (hwl : wl ≤ 1) (hf : ∀ j, f_ j < 256) : CI l yX5_oneOf wsX5_oneOf ({ frames := 0, cells := 0, slots := 0, locals := 0 }) g [.ref m0, .ref m12] [(m0, .inr (5, [.ref m1, .ref m2, .ref m3, .int (nI kp), .ref m4, .ref m5, .ref m6, .ref m7, .ref m8, .int (nI rn), .ref m9, .int (nI tn_), .int (nI ia), .int (nI wl), .ref m10, .ref m11, .ref m12, .int (nI si), .ref m13, .ref m14])), (m9, .inl (eI g, 96, .inl (fun j => nI (tx j)))), (m12, .inl (eC g, 5, .inl (fun j => nI (f_ j))))] (fun (rz : Int32) (wz : va_W) => ∃ r9 : Nat, ∃ a9 : Nat, ∃ w9 : Nat, rz = (nI r9) ∧ wz = [(m0, .inr (5, [.ref m1, .ref m2, .ref m3, .int (nI kp), .ref m4, .ref m5, .ref m6, .ref m7, .ref m8, .int (nI rn), .ref m9, .int (nI tn_), .int (nI a9), .int (nI w9), .ref m10, .ref m11, .ref m12, .int (nI si), .ref m13, .ref m14])), (m9, .inl (eI g, 96, .inl (fun j => nI (tx j)))), (m12, .inl (eC g, 5, .inl (fun j => nI (f_ j))))] ∧ (a9, w9) = st1 (fun c_ => decide (ixN f_ c_ 5 0 < 5)) tx tn_ (ia, wl) ∧ (w9 = 1 → r9 = ixN f_ (tx ia) 5 0) ∧ r9 < 5 ∧ w9 ≤ 1 ∧ a9 ≤ 96 ∧ (w9 = 0 → r9 = 0)) 0 0 := by
  refine ctI (cc := cX5_oneOf) (maxL := 3) (ret := (some .int)) (by decide) rfl (Nat.le_of_ble_eq_true rfl) ?_
  intro p_ e_ s_ m_ bl_ mt_ cd_ A ls F hnm hP hD hS hl
  obtain ⟨hx, hb, hml, hown, hts, hK, hX, hA, hrt_, hlocks⟩ := id F
  have hl : lv_has ls 3 [(0, .ref m0), (1, .ref m12)] := hl
  refine lv_iconst (v := (nI 0)) hx hb dX5_oneOf_0 (by decide) ?_
  refine lv_istore_n (lv' := [(2, .int (nI 0)), (0, .ref m0), (1, .ref m12)]) hx hb dX5_oneOf_1 rfl hl (by decide) rfl (fun ls hl => ?_)
  refine xlo (σ := Nat) 3 (fun (k : Nat) => [(0, .ref m0), (1, .ref m12), (2, .int (nI k))]) (fun (k : Nat) => [(m0, .inr (5, [.ref m1, .ref m2, .ref m3, .int (nI kp), .ref m4, .ref m5, .ref m6, .ref m7, .ref m8, .int (nI rn), .ref m9, .int (nI tn_), .int (nI ia), .int (nI wl), .ref m10, .ref m11, .ref m12, .int (nI si), .ref m13, .ref m14])), (m9, .inl (eI g, 96, .inl (fun j => nI (tx j)))), (m12, .inl (eC g, 5, .inl (fun j => nI (f_ j))))]) (fun (k : Nat) => (wl = 1 ∧ ia < tn_ → ixN f_ (tx ia) 5 0 = ixN f_ (tx ia) (5 - k) k) ∧ k ≤ 5) (fun (k : Nat) => 5 - k) (fun xz_ hI ih2 H locs ls hP hD hS hl => ?_) 0 (show (wl = 1 ∧ ia < tn_ → ixN f_ (tx ia) 5 0 = ixN f_ (tx ia) (5 - 0) 0) ∧ 0 ≤ 5 from (⟨fun _ => rfl, by omega⟩)) hP hD hS (lv_sub hl [1, 2, 0] rfl)
  obtain ⟨k, rfl⟩ : ∃ z, z = xz_ := ⟨_, rfl⟩
  have hP : va_P (eD g) vwCl [(m0, .inr (5, [.ref m1, .ref m2, .ref m3, .int (nI kp), .ref m4, .ref m5, .ref m6, .ref m7, .ref m8, .int (nI rn), .ref m9, .int (nI tn_), .int (nI ia), .int (nI wl), .ref m10, .ref m11, .ref m12, .int (nI si), .ref m13, .ref m14])), (m9, .inl (eI g, 96, .inl (fun j => nI (tx j)))), (m12, .inl (eC g, 5, .inl (fun j => nI (f_ j))))] H := hP
  have hD : va_D A [(m0, .inr (5, [.ref m1, .ref m2, .ref m3, .int (nI kp), .ref m4, .ref m5, .ref m6, .ref m7, .ref m8, .int (nI rn), .ref m9, .int (nI tn_), .int (nI ia), .int (nI wl), .ref m10, .ref m11, .ref m12, .int (nI si), .ref m13, .ref m14])), (m9, .inl (eI g, 96, .inl (fun j => nI (tx j)))), (m12, .inl (eC g, 5, .inl (fun j => nI (f_ j))))] := hD
  have hl : lv_has ls 3 [(0, .ref m0), (1, .ref m12), (2, .int (nI k))] := hl
  have hI2 : (wl = 1 ∧ ia < tn_ → ixN f_ (tx ia) 5 0 = ixN f_ (tx ia) (5 - k) k) ∧ k ≤ 5 := hI
  clear hI
  obtain ⟨hix0, hk⟩ := id hI2
  have hix : wl = 1 ∧ ia < tn_ → _ := hix0
  refine lv_iload_n hx hb dX5_oneOf_2 rfl (lv_at hl 2 rfl) ?_
  refine lv_aload_n hx hb dX5_oneOf_3 rfl (lv_at hl 1 rfl) ?_
  refine va_alen hx hb hK hP 2 2 rfl rfl (v := nI 5) rfl dX5_oneOf_4 ?_
  refine xge (tgt := 59) hx hb dX5_oneOf_5 (by decide) (by omega) (by omega) (fun c5 => ?_) (fun c5 => ?_)
  · skip
    refine lv_aload_n hx hb dX5_oneOf_59 rfl (lv_at hl 0 rfl) ?_
    refine lv_iconst (v := (nI 0)) hx hb dX5_oneOf_60 (by decide) ?_
    refine xput F hP hD hS inX5_oneOf_X5 tyX5 tyX5_ok nmX5 0 rfl rfl 13 (by decide) lkX5_oneOf_1 rfl rfl rfl (Nat.le_of_ble_eq_true rfl) dX5_oneOf_61 (fun H locs hP hD hS => ?_)
    have hP : va_P (eD g) vwCl [(m0, .inr (5, [.ref m1, .ref m2, .ref m3, .int (nI kp), .ref m4, .ref m5, .ref m6, .ref m7, .ref m8, .int (nI rn), .ref m9, .int (nI tn_), .int (nI ia), .int (nI 0), .ref m10, .ref m11, .ref m12, .int (nI si), .ref m13, .ref m14])), (m9, .inl (eI g, 96, .inl (fun j => nI (tx j)))), (m12, .inl (eC g, 5, .inl (fun j => nI (f_ j))))] H := hP
    have hD : va_D A [(m0, .inr (5, [.ref m1, .ref m2, .ref m3, .int (nI kp), .ref m4, .ref m5, .ref m6, .ref m7, .ref m8, .int (nI rn), .ref m9, .int (nI tn_), .int (nI ia), .int (nI 0), .ref m10, .ref m11, .ref m12, .int (nI si), .ref m13, .ref m14])), (m9, .inl (eI g, 96, .inl (fun j => nI (tx j)))), (m12, .inl (eC g, 5, .inl (fun j => nI (f_ j))))] := hD
    refine lv_iconst (v := (nI 0)) hx hb dX5_oneOf_64 (by decide) ?_
    exact rtI F hP hD hS dX5_oneOf_65 (⟨_, _, _, rfl, rfl, by rw [st1_no (fun z => by have q := of_decide_eq_true z.2.2; rw [hix (by omega), ix_end (by omega)] at q; omega)], fun z => absurd z (by decide), by omega, by omega, by omega, fun _ => rfl⟩)
  · skip
    refine lv_aload_n hx hb dX5_oneOf_8 rfl (lv_at hl 0 rfl) ?_
    refine xget F hP inX5_oneOf_X5 0 rfl rfl 13 (by decide) lkX5_oneOf_1 rfl dX5_oneOf_9 ?_
    refine zeq (tgt := 53) hx hb dX5_oneOf_12 (by decide) (by omega) (fun c12 => ?_) (fun c12 => ?_)
    · skip
      refine lv_iinc (v := (nI (k + 1))) (lv' := [(2, .int (nI (k + 1))), (0, .ref m0), (1, .ref m12)]) hx hb dX5_oneOf_53 hl (k := 2) rfl (iincP k 1) (by decide) rfl (fun ls hl => ?_)
      refine lv_goto (tgt := 2) hx hb dX5_oneOf_56 (by decide) ?_
      exact ih2 (k + 1) (show (wl = 1 ∧ ia < tn_ → ixN f_ (tx ia) 5 0 = ixN f_ (tx ia) (5 - (k + 1)) (k + 1)) ∧ (k + 1) ≤ 5 from (⟨fun z => absurd z (by omega), by omega⟩)) (show 5 - (k + 1) < 5 - k from (by omega)) _ _ _ hP hD hS (lv_sub hl [1, 2, 0] rfl)
    · skip
      refine lv_aload_n hx hb dX5_oneOf_15 rfl (lv_at hl 0 rfl) ?_
      refine xget F hP inX5_oneOf_X5 0 rfl rfl 12 (by decide) lkX5_oneOf_2 rfl dX5_oneOf_16 ?_
      refine lv_aload_n hx hb dX5_oneOf_19 rfl (lv_at hl 0 rfl) ?_
      refine xget F hP inX5_oneOf_X5 0 rfl rfl 11 (by decide) lkX5_oneOf_3 rfl dX5_oneOf_20 ?_
      refine xge (tgt := 53) hx hb dX5_oneOf_23 (by decide) (by omega) (by omega) (fun c23 => ?_) (fun c23 => ?_)
      · skip
        refine lv_iinc (v := (nI (k + 1))) (lv' := [(2, .int (nI (k + 1))), (0, .ref m0), (1, .ref m12)]) hx hb dX5_oneOf_53 hl (k := 2) rfl (iincP k 1) (by decide) rfl (fun ls hl => ?_)
        refine lv_goto (tgt := 2) hx hb dX5_oneOf_56 (by decide) ?_
        exact ih2 (k + 1) (show (wl = 1 ∧ ia < tn_ → ixN f_ (tx ia) 5 0 = ixN f_ (tx ia) (5 - (k + 1)) (k + 1)) ∧ (k + 1) ≤ 5 from (⟨fun z => absurd z (by omega), by omega⟩)) (show 5 - (k + 1) < 5 - k from (by omega)) _ _ _ hP hD hS (lv_sub hl [1, 2, 0] rfl)
      · skip
        refine lv_aload_n hx hb dX5_oneOf_26 rfl (lv_at hl 0 rfl) ?_
        refine xget F hP inX5_oneOf_X5 0 rfl rfl 10 (by decide) lkX5_oneOf_4 rfl dX5_oneOf_27 ?_
        refine lv_aload_n hx hb dX5_oneOf_30 rfl (lv_at hl 0 rfl) ?_
        refine xget F hP inX5_oneOf_X5 0 rfl rfl 12 (by decide) lkX5_oneOf_2 rfl dX5_oneOf_31 ?_
        refine xald F hP 1 (v := (nI (tx ia))) rfl (by omega) (by omega) rfl dX5_oneOf_34 ?_
        have hbd1 := htx (ia)
        refine lv_aload_n hx hb dX5_oneOf_35 rfl (lv_at hl 1 rfl) ?_
        refine lv_iload_n hx hb dX5_oneOf_36 rfl (lv_at hl 2 rfl) ?_
        refine xald_c F hP 2 (v := (nI (f_ k))) rfl (by omega) (by omega) rfl dX5_oneOf_37 ?_
        have hbd2 := hf (k)
        refine xne (tgt := 53) hx hb dX5_oneOf_38 (by decide) (by omega) (by omega) (fun c38 => ?_) (fun c38 => ?_)
        · skip
          refine lv_iinc (v := (nI (k + 1))) (lv' := [(2, .int (nI (k + 1))), (0, .ref m0), (1, .ref m12)]) hx hb dX5_oneOf_53 hl (k := 2) rfl (iincP k 1) (by decide) rfl (fun ls hl => ?_)
          refine lv_goto (tgt := 2) hx hb dX5_oneOf_56 (by decide) ?_
          exact ih2 (k + 1) (show (wl = 1 ∧ ia < tn_ → ixN f_ (tx ia) 5 0 = ixN f_ (tx ia) (5 - (k + 1)) (k + 1)) ∧ (k + 1) ≤ 5 from (⟨fun z => (hix z).trans (ix_no (by omega) (fun q => c38 q.symm)), by omega⟩)) (show 5 - (k + 1) < 5 - k from (by omega)) _ _ _ hP hD hS (lv_sub hl [1, 2, 0] rfl)
        · skip
          refine lv_aload_n hx hb dX5_oneOf_41 rfl (lv_at hl 0 rfl) ?_
          refine lv_dup hx hb dX5_oneOf_42 rfl ?_
          refine xget F hP inX5_oneOf_X5 0 rfl rfl 12 (by decide) lkX5_oneOf_2 rfl dX5_oneOf_43 ?_
          refine lv_iconst (v := (nI 1)) hx hb dX5_oneOf_46 (by decide) ?_
          refine xadd hx hb dX5_oneOf_47 ?_
          refine xput F hP hD hS inX5_oneOf_X5 tyX5 tyX5_ok nmX5 0 rfl rfl 12 (by decide) lkX5_oneOf_2 rfl rfl rfl (Nat.le_of_ble_eq_true rfl) dX5_oneOf_48 (fun H locs hP hD hS => ?_)
          have hP : va_P (eD g) vwCl [(m0, .inr (5, [.ref m1, .ref m2, .ref m3, .int (nI kp), .ref m4, .ref m5, .ref m6, .ref m7, .ref m8, .int (nI rn), .ref m9, .int (nI tn_), .int (nI (ia + 1)), .int (nI wl), .ref m10, .ref m11, .ref m12, .int (nI si), .ref m13, .ref m14])), (m9, .inl (eI g, 96, .inl (fun j => nI (tx j)))), (m12, .inl (eC g, 5, .inl (fun j => nI (f_ j))))] H := hP
          have hD : va_D A [(m0, .inr (5, [.ref m1, .ref m2, .ref m3, .int (nI kp), .ref m4, .ref m5, .ref m6, .ref m7, .ref m8, .int (nI rn), .ref m9, .int (nI tn_), .int (nI (ia + 1)), .int (nI wl), .ref m10, .ref m11, .ref m12, .int (nI si), .ref m13, .ref m14])), (m9, .inl (eI g, 96, .inl (fun j => nI (tx j)))), (m12, .inl (eC g, 5, .inl (fun j => nI (f_ j))))] := hD
          refine lv_iload_n hx hb dX5_oneOf_51 rfl (lv_at hl 2 rfl) ?_
          exact rtI F hP hD hS dX5_oneOf_52 (⟨_, _, _, rfl, rfl, by rw [st1_yes (by omega) (by omega) (show decide (ixN f_ (tx ia) 5 0 < 5) = true from decide_eq_true (by rw [hix (by omega), ix_yes (by omega) c38.symm]; omega))]; exact congrArg (fun z => (ia + 1, z)) (show wl = 1 by omega), fun _ => by rw [hix (by omega), ix_yes (by omega) c38.symm], by omega, by omega, by omega, fun z => by omega⟩)

theorem inX5_figures_X5 : ∀ w ∈ u_ws RX5 TX5 20, w ∈ wsX5_figures := fun _ h => (List.mem_cons_of_mem _ (List.mem_append_right _ h))
theorem lkX5_figures_1 : Cond.fieldLink RX5 186 "StripInFiveStepsModel" "well" "Z" ∈ wsX5_figures := List.mem_of_getElem? (i := 1) rfl
theorem lkX5_figures_2 : Cond.fieldLink RX5 189 "StripInFiveStepsModel" "at" "I" ∈ wsX5_figures := List.mem_of_getElem? (i := 2) rfl
theorem lkX5_figures_3 : Cond.fieldLink RX5 183 "StripInFiveStepsModel" "taped" "I" ∈ wsX5_figures := List.mem_of_getElem? (i := 3) rfl
theorem lkX5_figures_4 : Cond.fieldLink RX5 40 "StripInFiveStepsModel" "tape" "[I" ∈ wsX5_figures := List.mem_of_getElem? (i := 4) rfl
theorem kX5_figures : Cal yX5_figures wsX5_figures cX5_figures 4 (some .int) 1 := ⟨⟨_, rfl⟩, by decide +kernel⟩
set_option maxHeartbeats 1000000 in
set_option maxRecDepth 100000 in
theorem c_X5_figures (l : Launch) (g : EE) (m0 : Nat) (m1 : Nat) (m2 : Nat) (m3 : Nat) (m4 : Nat) (m5 : Nat) (m6 : Nat) (m7 : Nat) (m8 : Nat) (m9 : Nat) (m10 : Nat) (m11 : Nat) (m12 : Nat) (m13 : Nat) (m14 : Nat) (kp : Nat) (rn : Nat) (tn_ : Nat) (ia : Nat) (wl : Nat) (si : Nat) (tx : Nat → Nat) (mm : Nat) (htn : tn_ ≤ 96) (htx : ∀ j, tx j < 256) (hia : ia ≤ 96) (hwl : wl ≤ 1) (hmm : mm ≤ 2) : CI l yX5_figures wsX5_figures ({ frames := 0, cells := 0, slots := 0, locals := 0 }) g [.ref m0, .int (nI mm)] [(m0, .inr (5, [.ref m1, .ref m2, .ref m3, .int (nI kp), .ref m4, .ref m5, .ref m6, .ref m7, .ref m8, .int (nI rn), .ref m9, .int (nI tn_), .int (nI ia), .int (nI wl), .ref m10, .ref m11, .ref m12, .int (nI si), .ref m13, .ref m14])), (m9, .inl (eI g, 96, .inl (fun j => nI (tx j))))] (fun (rz : Int32) (wz : va_W) => ∃ v9 : Nat, ∃ a9 : Nat, ∃ w9 : Nat, rz = (nI v9) ∧ wz = [(m0, .inr (5, [.ref m1, .ref m2, .ref m3, .int (nI kp), .ref m4, .ref m5, .ref m6, .ref m7, .ref m8, .int (nI rn), .ref m9, .int (nI tn_), .int (nI a9), .int (nI w9), .ref m10, .ref m11, .ref m12, .int (nI si), .ref m13, .ref m14])), (m9, .inl (eI g, 96, .inl (fun j => nI (tx j))))] ∧ (v9, (a9, w9)) = fgV tx tn_ ia wl mm ∧ w9 ≤ 1 ∧ a9 ≤ 96 ∧ v9 ≤ 99 ∧ (mm ≤ 1 → v9 ≤ 9)) 0 0 := by
  refine ctI (cc := cX5_figures) (maxL := 4) (ret := (some .int)) (by decide) rfl (Nat.le_of_ble_eq_true rfl) ?_
  intro p_ e_ s_ m_ bl_ mt_ cd_ A ls F hnm hP hD hS hl
  obtain ⟨hx, hb, hml, hown, hts, hK, hX, hA, hrt_, hlocks⟩ := id F
  have hl : lv_has ls 4 [(0, .ref m0), (1, .int (nI mm))] := hl
  refine lv_iconst (v := (nI 0)) hx hb dX5_figures_0 (by decide) ?_
  refine lv_istore_n (lv' := [(2, .int (nI 0)), (0, .ref m0), (1, .int (nI mm))]) hx hb dX5_figures_1 rfl hl (by decide) rfl (fun ls hl => ?_)
  refine lv_iconst (v := (nI 0)) hx hb dX5_figures_2 (by decide) ?_
  refine lv_istore_n (lv' := [(3, .int (nI 0)), (2, .int (nI 0)), (0, .ref m0), (1, .int (nI mm))]) hx hb dX5_figures_3 rfl hl (by decide) rfl (fun ls hl => ?_)
  refine xlo (σ := Nat × Nat × Nat × Nat) 4 (fun xz_ => (fun (k : Nat) (v : Nat) (a : Nat) (w : Nat) => [(0, .ref m0), (1, .int (nI mm)), (2, .int (nI v)), (3, .int (nI k))]) xz_.1 xz_.2.1 xz_.2.2.1 xz_.2.2.2) (fun xz_ => (fun (k : Nat) (v : Nat) (a : Nat) (w : Nat) => [(m0, .inr (5, [.ref m1, .ref m2, .ref m3, .int (nI kp), .ref m4, .ref m5, .ref m6, .ref m7, .ref m8, .int (nI rn), .ref m9, .int (nI tn_), .int (nI a), .int (nI w), .ref m10, .ref m11, .ref m12, .int (nI si), .ref m13, .ref m14])), (m9, .inl (eI g, 96, .inl (fun j => nI (tx j))))]) xz_.1 xz_.2.1 xz_.2.2.1 xz_.2.2.2) (fun xz_ => (fun (k : Nat) (v : Nat) (a : Nat) (w : Nat) => fgV tx tn_ ia wl k = (v, (a, w)) ∧ w ≤ 1 ∧ a ≤ 96 ∧ (k = 0 → v = 0) ∧ (k ≤ 1 → v ≤ 9) ∧ v ≤ 99 ∧ k ≤ mm) xz_.1 xz_.2.1 xz_.2.2.1 xz_.2.2.2) (fun xz_ => (fun (k : Nat) (v : Nat) (a : Nat) (w : Nat) => mm - k) xz_.1 xz_.2.1 xz_.2.2.1 xz_.2.2.2) (fun xz_ hI ih4 H locs ls hP hD hS hl => ?_) (0, 0, ia, wl) (show fgV tx tn_ ia wl 0 = (0, (ia, wl)) ∧ wl ≤ 1 ∧ ia ≤ 96 ∧ (0 = 0 → 0 = 0) ∧ (0 ≤ 1 → 0 ≤ 9) ∧ 0 ≤ 99 ∧ 0 ≤ mm from (⟨rfl, by omega, by omega, fun _ => rfl, fun _ => by omega, by omega, by omega⟩)) hP hD hS (lv_sub hl [2, 3, 1, 0] rfl)
  obtain ⟨k, v, a, w⟩ := xz_
  have hP : va_P (eD g) vwCl [(m0, .inr (5, [.ref m1, .ref m2, .ref m3, .int (nI kp), .ref m4, .ref m5, .ref m6, .ref m7, .ref m8, .int (nI rn), .ref m9, .int (nI tn_), .int (nI a), .int (nI w), .ref m10, .ref m11, .ref m12, .int (nI si), .ref m13, .ref m14])), (m9, .inl (eI g, 96, .inl (fun j => nI (tx j))))] H := hP
  have hD : va_D A [(m0, .inr (5, [.ref m1, .ref m2, .ref m3, .int (nI kp), .ref m4, .ref m5, .ref m6, .ref m7, .ref m8, .int (nI rn), .ref m9, .int (nI tn_), .int (nI a), .int (nI w), .ref m10, .ref m11, .ref m12, .int (nI si), .ref m13, .ref m14])), (m9, .inl (eI g, 96, .inl (fun j => nI (tx j))))] := hD
  have hl : lv_has ls 4 [(0, .ref m0), (1, .int (nI mm)), (2, .int (nI v)), (3, .int (nI k))] := hl
  have hI4 : fgV tx tn_ ia wl k = (v, (a, w)) ∧ w ≤ 1 ∧ a ≤ 96 ∧ (k = 0 → v = 0) ∧ (k ≤ 1 → v ≤ 9) ∧ v ≤ 99 ∧ k ≤ mm := hI
  clear hI
  obtain ⟨hfg, hw1, ha96, hv0, hv1, hv99, hkm⟩ := id hI4
  refine lv_iload_n hx hb dX5_figures_4 rfl (lv_at hl 3 rfl) ?_
  refine lv_iload_n hx hb dX5_figures_5 rfl (lv_at hl 1 rfl) ?_
  refine xge (tgt := 97) hx hb dX5_figures_6 (by decide) (by omega) (by omega) (fun c6 => ?_) (fun c6 => ?_)
  · skip
    refine lv_iload_n hx hb dX5_figures_97 rfl (lv_at hl 2 rfl) ?_
    exact rtI F hP hD hS dX5_figures_98 (⟨_, _, _, rfl, rfl, by rw [show mm = k by omega]; exact hfg.symm, by omega, by omega, by omega, by omega⟩)
  · skip
    refine lv_aload_n hx hb dX5_figures_9 rfl (lv_at hl 0 rfl) ?_
    refine xget F hP inX5_figures_X5 0 rfl rfl 13 (by decide) lkX5_figures_1 rfl dX5_figures_10 ?_
    refine zeq (tgt := 86) hx hb dX5_figures_13 (by decide) (by omega) (fun c13 => ?_) (fun c13 => ?_)
    · skip
      refine lv_aload_n hx hb dX5_figures_86 rfl (lv_at hl 0 rfl) ?_
      refine lv_iconst (v := (nI 0)) hx hb dX5_figures_87 (by decide) ?_
      refine xput F hP hD hS inX5_figures_X5 tyX5 tyX5_ok nmX5 0 rfl rfl 13 (by decide) lkX5_figures_1 rfl rfl rfl (Nat.le_of_ble_eq_true rfl) dX5_figures_88 (fun H locs hP hD hS => ?_)
      have hP : va_P (eD g) vwCl [(m0, .inr (5, [.ref m1, .ref m2, .ref m3, .int (nI kp), .ref m4, .ref m5, .ref m6, .ref m7, .ref m8, .int (nI rn), .ref m9, .int (nI tn_), .int (nI a), .int (nI 0), .ref m10, .ref m11, .ref m12, .int (nI si), .ref m13, .ref m14])), (m9, .inl (eI g, 96, .inl (fun j => nI (tx j))))] H := hP
      have hD : va_D A [(m0, .inr (5, [.ref m1, .ref m2, .ref m3, .int (nI kp), .ref m4, .ref m5, .ref m6, .ref m7, .ref m8, .int (nI rn), .ref m9, .int (nI tn_), .int (nI a), .int (nI 0), .ref m10, .ref m11, .ref m12, .int (nI si), .ref m13, .ref m14])), (m9, .inl (eI g, 96, .inl (fun j => nI (tx j))))] := hD
      refine lv_iinc (v := (nI (k + 1))) (lv' := [(3, .int (nI (k + 1))), (0, .ref m0), (1, .int (nI mm)), (2, .int (nI v))]) hx hb dX5_figures_91 hl (k := 3) rfl (iincP k 1) (by decide) rfl (fun ls hl => ?_)
      refine lv_goto (tgt := 4) hx hb dX5_figures_94 (by decide) ?_
      exact ih4 (k + 1, v, a, 0) (show fgV tx tn_ ia wl (k + 1) = (v, (a, 0)) ∧ 0 ≤ 1 ∧ a ≤ 96 ∧ ((k + 1) = 0 → v = 0) ∧ ((k + 1) ≤ 1 → v ≤ 9) ∧ v ≤ 99 ∧ (k + 1) ≤ mm from (⟨fg_no hfg (fun z => by omega), by omega, by omega, by omega, by omega, by omega, by omega⟩)) (show mm - (k + 1) < mm - k from (by omega)) _ _ _ hP hD hS (lv_sub hl [1, 2, 3, 0] rfl)
    · skip
      refine lv_aload_n hx hb dX5_figures_16 rfl (lv_at hl 0 rfl) ?_
      refine xget F hP inX5_figures_X5 0 rfl rfl 12 (by decide) lkX5_figures_2 rfl dX5_figures_17 ?_
      refine lv_aload_n hx hb dX5_figures_20 rfl (lv_at hl 0 rfl) ?_
      refine xget F hP inX5_figures_X5 0 rfl rfl 11 (by decide) lkX5_figures_3 rfl dX5_figures_21 ?_
      refine xge (tgt := 86) hx hb dX5_figures_24 (by decide) (by omega) (by omega) (fun c24 => ?_) (fun c24 => ?_)
      · skip
        refine lv_aload_n hx hb dX5_figures_86 rfl (lv_at hl 0 rfl) ?_
        refine lv_iconst (v := (nI 0)) hx hb dX5_figures_87 (by decide) ?_
        refine xput F hP hD hS inX5_figures_X5 tyX5 tyX5_ok nmX5 0 rfl rfl 13 (by decide) lkX5_figures_1 rfl rfl rfl (Nat.le_of_ble_eq_true rfl) dX5_figures_88 (fun H locs hP hD hS => ?_)
        have hP : va_P (eD g) vwCl [(m0, .inr (5, [.ref m1, .ref m2, .ref m3, .int (nI kp), .ref m4, .ref m5, .ref m6, .ref m7, .ref m8, .int (nI rn), .ref m9, .int (nI tn_), .int (nI a), .int (nI 0), .ref m10, .ref m11, .ref m12, .int (nI si), .ref m13, .ref m14])), (m9, .inl (eI g, 96, .inl (fun j => nI (tx j))))] H := hP
        have hD : va_D A [(m0, .inr (5, [.ref m1, .ref m2, .ref m3, .int (nI kp), .ref m4, .ref m5, .ref m6, .ref m7, .ref m8, .int (nI rn), .ref m9, .int (nI tn_), .int (nI a), .int (nI 0), .ref m10, .ref m11, .ref m12, .int (nI si), .ref m13, .ref m14])), (m9, .inl (eI g, 96, .inl (fun j => nI (tx j))))] := hD
        refine lv_iinc (v := (nI (k + 1))) (lv' := [(3, .int (nI (k + 1))), (0, .ref m0), (1, .int (nI mm)), (2, .int (nI v))]) hx hb dX5_figures_91 hl (k := 3) rfl (iincP k 1) (by decide) rfl (fun ls hl => ?_)
        refine lv_goto (tgt := 4) hx hb dX5_figures_94 (by decide) ?_
        exact ih4 (k + 1, v, a, 0) (show fgV tx tn_ ia wl (k + 1) = (v, (a, 0)) ∧ 0 ≤ 1 ∧ a ≤ 96 ∧ ((k + 1) = 0 → v = 0) ∧ ((k + 1) ≤ 1 → v ≤ 9) ∧ v ≤ 99 ∧ (k + 1) ≤ mm from (⟨fg_no hfg (fun z => by omega), by omega, by omega, by omega, by omega, by omega, by omega⟩)) (show mm - (k + 1) < mm - k from (by omega)) _ _ _ hP hD hS (lv_sub hl [1, 2, 3, 0] rfl)
      · skip
        refine lv_aload_n hx hb dX5_figures_27 rfl (lv_at hl 0 rfl) ?_
        refine xget F hP inX5_figures_X5 0 rfl rfl 10 (by decide) lkX5_figures_4 rfl dX5_figures_28 ?_
        refine lv_aload_n hx hb dX5_figures_31 rfl (lv_at hl 0 rfl) ?_
        refine xget F hP inX5_figures_X5 0 rfl rfl 12 (by decide) lkX5_figures_2 rfl dX5_figures_32 ?_
        refine xald F hP 1 (v := (nI (tx a))) rfl (by omega) (by omega) rfl dX5_figures_35 ?_
        have hbd1 := htx (a)
        refine lv_bipush (v := (nI 48)) hx hb dX5_figures_36 (by decide) ?_
        refine xlt (tgt := 86) hx hb dX5_figures_38 (by decide) (by omega) (by omega) (fun c38 => ?_) (fun c38 => ?_)
        · skip
          refine lv_aload_n hx hb dX5_figures_86 rfl (lv_at hl 0 rfl) ?_
          refine lv_iconst (v := (nI 0)) hx hb dX5_figures_87 (by decide) ?_
          refine xput F hP hD hS inX5_figures_X5 tyX5 tyX5_ok nmX5 0 rfl rfl 13 (by decide) lkX5_figures_1 rfl rfl rfl (Nat.le_of_ble_eq_true rfl) dX5_figures_88 (fun H locs hP hD hS => ?_)
          have hP : va_P (eD g) vwCl [(m0, .inr (5, [.ref m1, .ref m2, .ref m3, .int (nI kp), .ref m4, .ref m5, .ref m6, .ref m7, .ref m8, .int (nI rn), .ref m9, .int (nI tn_), .int (nI a), .int (nI 0), .ref m10, .ref m11, .ref m12, .int (nI si), .ref m13, .ref m14])), (m9, .inl (eI g, 96, .inl (fun j => nI (tx j))))] H := hP
          have hD : va_D A [(m0, .inr (5, [.ref m1, .ref m2, .ref m3, .int (nI kp), .ref m4, .ref m5, .ref m6, .ref m7, .ref m8, .int (nI rn), .ref m9, .int (nI tn_), .int (nI a), .int (nI 0), .ref m10, .ref m11, .ref m12, .int (nI si), .ref m13, .ref m14])), (m9, .inl (eI g, 96, .inl (fun j => nI (tx j))))] := hD
          refine lv_iinc (v := (nI (k + 1))) (lv' := [(3, .int (nI (k + 1))), (0, .ref m0), (1, .int (nI mm)), (2, .int (nI v))]) hx hb dX5_figures_91 hl (k := 3) rfl (iincP k 1) (by decide) rfl (fun ls hl => ?_)
          refine lv_goto (tgt := 4) hx hb dX5_figures_94 (by decide) ?_
          exact ih4 (k + 1, v, a, 0) (show fgV tx tn_ ia wl (k + 1) = (v, (a, 0)) ∧ 0 ≤ 1 ∧ a ≤ 96 ∧ ((k + 1) = 0 → v = 0) ∧ ((k + 1) ≤ 1 → v ≤ 9) ∧ v ≤ 99 ∧ (k + 1) ≤ mm from (⟨fg_no hfg (fun z => by omega), by omega, by omega, by omega, by omega, by omega, by omega⟩)) (show mm - (k + 1) < mm - k from (by omega)) _ _ _ hP hD hS (lv_sub hl [1, 2, 3, 0] rfl)
        · skip
          refine lv_aload_n hx hb dX5_figures_41 rfl (lv_at hl 0 rfl) ?_
          refine xget F hP inX5_figures_X5 0 rfl rfl 10 (by decide) lkX5_figures_4 rfl dX5_figures_42 ?_
          refine lv_aload_n hx hb dX5_figures_45 rfl (lv_at hl 0 rfl) ?_
          refine xget F hP inX5_figures_X5 0 rfl rfl 12 (by decide) lkX5_figures_2 rfl dX5_figures_46 ?_
          refine xald F hP 1 (v := (nI (tx a))) rfl (by omega) (by omega) rfl dX5_figures_49 ?_
          have hbd2 := htx (a)
          refine lv_bipush (v := (nI 57)) hx hb dX5_figures_50 (by decide) ?_
          refine xgt (tgt := 86) hx hb dX5_figures_52 (by decide) (by omega) (by omega) (fun c52 => ?_) (fun c52 => ?_)
          · skip
            refine lv_aload_n hx hb dX5_figures_86 rfl (lv_at hl 0 rfl) ?_
            refine lv_iconst (v := (nI 0)) hx hb dX5_figures_87 (by decide) ?_
            refine xput F hP hD hS inX5_figures_X5 tyX5 tyX5_ok nmX5 0 rfl rfl 13 (by decide) lkX5_figures_1 rfl rfl rfl (Nat.le_of_ble_eq_true rfl) dX5_figures_88 (fun H locs hP hD hS => ?_)
            have hP : va_P (eD g) vwCl [(m0, .inr (5, [.ref m1, .ref m2, .ref m3, .int (nI kp), .ref m4, .ref m5, .ref m6, .ref m7, .ref m8, .int (nI rn), .ref m9, .int (nI tn_), .int (nI a), .int (nI 0), .ref m10, .ref m11, .ref m12, .int (nI si), .ref m13, .ref m14])), (m9, .inl (eI g, 96, .inl (fun j => nI (tx j))))] H := hP
            have hD : va_D A [(m0, .inr (5, [.ref m1, .ref m2, .ref m3, .int (nI kp), .ref m4, .ref m5, .ref m6, .ref m7, .ref m8, .int (nI rn), .ref m9, .int (nI tn_), .int (nI a), .int (nI 0), .ref m10, .ref m11, .ref m12, .int (nI si), .ref m13, .ref m14])), (m9, .inl (eI g, 96, .inl (fun j => nI (tx j))))] := hD
            refine lv_iinc (v := (nI (k + 1))) (lv' := [(3, .int (nI (k + 1))), (0, .ref m0), (1, .int (nI mm)), (2, .int (nI v))]) hx hb dX5_figures_91 hl (k := 3) rfl (iincP k 1) (by decide) rfl (fun ls hl => ?_)
            refine lv_goto (tgt := 4) hx hb dX5_figures_94 (by decide) ?_
            exact ih4 (k + 1, v, a, 0) (show fgV tx tn_ ia wl (k + 1) = (v, (a, 0)) ∧ 0 ≤ 1 ∧ a ≤ 96 ∧ ((k + 1) = 0 → v = 0) ∧ ((k + 1) ≤ 1 → v ≤ 9) ∧ v ≤ 99 ∧ (k + 1) ≤ mm from (⟨fg_no hfg (fun z => by omega), by omega, by omega, by omega, by omega, by omega, by omega⟩)) (show mm - (k + 1) < mm - k from (by omega)) _ _ _ hP hD hS (lv_sub hl [1, 2, 3, 0] rfl)
          · skip
            refine lv_bipush (v := (nI 10)) hx hb dX5_figures_55 (by decide) ?_
            refine lv_iload_n hx hb dX5_figures_57 rfl (lv_at hl 2 rfl) ?_
            refine xmul hx hb dX5_figures_58 ?_
            refine lv_aload_n hx hb dX5_figures_59 rfl (lv_at hl 0 rfl) ?_
            refine xget F hP inX5_figures_X5 0 rfl rfl 10 (by decide) lkX5_figures_4 rfl dX5_figures_60 ?_
            refine lv_aload_n hx hb dX5_figures_63 rfl (lv_at hl 0 rfl) ?_
            refine xget F hP inX5_figures_X5 0 rfl rfl 12 (by decide) lkX5_figures_2 rfl dX5_figures_64 ?_
            refine xald F hP 1 (v := (nI (tx a))) rfl (by omega) (by omega) rfl dX5_figures_67 ?_
            have hbd3 := htx (a)
            refine xadd hx hb dX5_figures_68 ?_
            refine lv_bipush (v := (nI 48)) hx hb dX5_figures_69 (by decide) ?_
            refine xsub hx hb (by omega) dX5_figures_71 ?_
            refine lv_istore_n (lv' := [(2, .int (nI (((10 * v) + (tx a)) - 48))), (0, .ref m0), (1, .int (nI mm)), (3, .int (nI k))]) hx hb dX5_figures_72 rfl hl (by decide) rfl (fun ls hl => ?_)
            refine lv_aload_n hx hb dX5_figures_73 rfl (lv_at hl 1 rfl) ?_
            refine lv_dup hx hb dX5_figures_74 rfl ?_
            refine xget F hP inX5_figures_X5 0 rfl rfl 12 (by decide) lkX5_figures_2 rfl dX5_figures_75 ?_
            refine lv_iconst (v := (nI 1)) hx hb dX5_figures_78 (by decide) ?_
            refine xadd hx hb dX5_figures_79 ?_
            refine xput F hP hD hS inX5_figures_X5 tyX5 tyX5_ok nmX5 0 rfl rfl 12 (by decide) lkX5_figures_2 rfl rfl rfl (Nat.le_of_ble_eq_true rfl) dX5_figures_80 (fun H locs hP hD hS => ?_)
            have hP : va_P (eD g) vwCl [(m0, .inr (5, [.ref m1, .ref m2, .ref m3, .int (nI kp), .ref m4, .ref m5, .ref m6, .ref m7, .ref m8, .int (nI rn), .ref m9, .int (nI tn_), .int (nI (a + 1)), .int (nI w), .ref m10, .ref m11, .ref m12, .int (nI si), .ref m13, .ref m14])), (m9, .inl (eI g, 96, .inl (fun j => nI (tx j))))] H := hP
            have hD : va_D A [(m0, .inr (5, [.ref m1, .ref m2, .ref m3, .int (nI kp), .ref m4, .ref m5, .ref m6, .ref m7, .ref m8, .int (nI rn), .ref m9, .int (nI tn_), .int (nI (a + 1)), .int (nI w), .ref m10, .ref m11, .ref m12, .int (nI si), .ref m13, .ref m14])), (m9, .inl (eI g, 96, .inl (fun j => nI (tx j))))] := hD
            refine lv_goto (tgt := 91) hx hb dX5_figures_83 (by decide) ?_
            refine lv_iinc (v := (nI (k + 1))) (lv' := [(3, .int (nI (k + 1))), (2, .int (nI (((10 * v) + (tx a)) - 48))), (0, .ref m0), (1, .int (nI mm))]) hx hb dX5_figures_91 hl (k := 3) rfl (iincP k 1) (by decide) rfl (fun ls hl => ?_)
            refine lv_goto (tgt := 4) hx hb dX5_figures_94 (by decide) ?_
            exact ih4 (k + 1, ((10 * v) + (tx a)) - 48, a + 1, w) (show fgV tx tn_ ia wl (k + 1) = ((((10 * v) + (tx a)) - 48), ((a + 1), w)) ∧ w ≤ 1 ∧ (a + 1) ≤ 96 ∧ ((k + 1) = 0 → (((10 * v) + (tx a)) - 48) = 0) ∧ ((k + 1) ≤ 1 → (((10 * v) + (tx a)) - 48) ≤ 9) ∧ (((10 * v) + (tx a)) - 48) ≤ 99 ∧ (k + 1) ≤ mm from (⟨fg_yes hfg (by omega) (by omega) ⟨by omega, by omega⟩, by omega, by omega, by omega, fun z => by omega, by omega, by omega⟩)) (show mm - (k + 1) < mm - k from (by omega)) _ _ _ hP hD hS (lv_sub hl [2, 3, 1, 0] rfl)
