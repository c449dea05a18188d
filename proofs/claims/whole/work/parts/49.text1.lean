theorem inX3_letterAt_X3 : ∀ w ∈ u_ws RX3 TX3 2, w ∈ wsX3_letterAt := fun _ h => (List.mem_cons_of_mem _ (List.mem_append_right _ h))
theorem lkX3_letterAt_1 : Cond.fieldLink RX3 15 "StripInFiveSteps$Text" "size" "I" ∈ wsX3_letterAt := List.mem_of_getElem? (i := 1) rfl
theorem lkX3_letterAt_2 : Cond.fieldLink RX3 9 "StripInFiveSteps$Text" "letters" "[I" ∈ wsX3_letterAt := List.mem_of_getElem? (i := 2) rfl
theorem kX3_letterAt : Cal yX3_letterAt wsX3_letterAt cX3_letterAt 2 (some .int) 1 := ⟨⟨_, rfl⟩, by decide +kernel⟩
set_option maxHeartbeats 1000000 in
set_option maxRecDepth 100000 in
theorem n_X3_letterAt (l : Launch) (g : EE) (t0 : Nat) (t1 : Nat) (tn_ : Nat) (tx : Nat → Nat) (p : Nat) (htn : tn_ ≤ 96) (htx : ∀ j, tx j < 256) (hp : p < tn_) : CI l yX3_letterAt wsX3_letterAt ({ frames := 0, cells := 0, slots := 0, locals := 0 }) g [.ref t0, .int (nI p)] [(t0, .inr (3, [.ref t1, .int (nI tn_)])), (t1, .inl (eI g, 96, .inl (fun j => nI (tx j))))] (fun (rz : Int32) (wz : va_W) => rz = (nI (tx p)) ∧ wz = [(t0, .inr (3, [.ref t1, .int (nI tn_)])), (t1, .inl (eI g, 96, .inl (fun j => nI (tx j))))]) 0 0 := by
  refine ctI (cc := cX3_letterAt) (maxL := 2) (ret := (some .int)) (by decide) rfl (Nat.le_of_ble_eq_true rfl) ?_
  intro p_ e_ s_ m_ bl_ mt_ cd_ A ls F hnm hP hD hS hl
  obtain ⟨hx, hb, hml, hown, hts, hK, hX, hA, hrt_, hlocks⟩ := id F
  have hl : lv_has ls 2 [(0, .ref t0), (1, .int (nI p))] := hl
  refine lv_iload_n hx hb dX3_letterAt_0 rfl (lv_at hl 1 rfl) ?_
  refine zlt (tgt := 27) hx hb dX3_letterAt_1 (by decide) (by omega) ?_
  refine lv_iload_n hx hb dX3_letterAt_4 rfl (lv_at hl 1 rfl) ?_
  refine lv_aload_n hx hb dX3_letterAt_5 rfl (lv_at hl 0 rfl) ?_
  refine xget F hP inX3_letterAt_X3 0 rfl rfl 1 (by decide) lkX3_letterAt_1 rfl dX3_letterAt_6 ?_
  refine xge (tgt := 27) hx hb dX3_letterAt_9 (by decide) (by omega) (by omega) (fun c9 => ?_) (fun c9 => ?_)
  · skip
    refine lv_iconst (v := (-1)) hx hb dX3_letterAt_27 (by decide) ?_
    exact rtI F hP hD hS dX3_letterAt_28 (by first | (exfalso; omega) | exact ⟨rfl, rfl⟩)
  · skip
    refine lv_iload_n hx hb dX3_letterAt_12 rfl (lv_at hl 1 rfl) ?_
    refine lv_bipush (v := (nI 96)) hx hb dX3_letterAt_13 (by decide) ?_
    refine xge (tgt := 27) hx hb dX3_letterAt_15 (by decide) (by omega) (by omega) (fun c15 => ?_) (fun c15 => ?_)
    · skip
      refine lv_iconst (v := (-1)) hx hb dX3_letterAt_27 (by decide) ?_
      exact rtI F hP hD hS dX3_letterAt_28 (by first | (exfalso; omega) | exact ⟨rfl, rfl⟩)
    · skip
      refine lv_aload_n hx hb dX3_letterAt_18 rfl (lv_at hl 0 rfl) ?_
      refine xget F hP inX3_letterAt_X3 0 rfl rfl 0 (by decide) lkX3_letterAt_2 rfl dX3_letterAt_19 ?_
      refine lv_iload_n hx hb dX3_letterAt_22 rfl (lv_at hl 1 rfl) ?_
      refine xald F hP 1 (v := (nI (tx p))) rfl (by omega) (by omega) rfl dX3_letterAt_23 ?_
      refine lv_goto (tgt := 28) hx hb dX3_letterAt_24 (by decide) ?_
      exact rtI F hP hD hS dX3_letterAt_28 (by first | (exfalso; omega) | exact ⟨rfl, rfl⟩)

set_option maxHeartbeats 1000000 in
set_option maxRecDepth 100000 in
theorem c_X3_letterAt (l : Launch) (g : EE) (t0 : Nat) (t1 : Nat) (tn_ : Nat) (tx : Nat → Nat) (p : Nat) (htn : tn_ ≤ 96) (htx : ∀ j, tx j < 256) (hp : p < 1000) : CI l yX3_letterAt wsX3_letterAt ({ frames := 0, cells := 0, slots := 0, locals := 0 }) g [.ref t0, .int (nI p)] [(t0, .inr (3, [.ref t1, .int (nI tn_)])), (t1, .inl (eI g, 96, .inl (fun j => nI (tx j))))] (fun (rz : Int32) (wz : va_W) => rz = (ltI tx tn_ p) ∧ wz = [(t0, .inr (3, [.ref t1, .int (nI tn_)])), (t1, .inl (eI g, 96, .inl (fun j => nI (tx j))))]) 0 0 := by
  refine ctI (cc := cX3_letterAt) (maxL := 2) (ret := (some .int)) (by decide) rfl (Nat.le_of_ble_eq_true rfl) ?_
  intro p_ e_ s_ m_ bl_ mt_ cd_ A ls F hnm hP hD hS hl
  obtain ⟨hx, hb, hml, hown, hts, hK, hX, hA, hrt_, hlocks⟩ := id F
  have hl : lv_has ls 2 [(0, .ref t0), (1, .int (nI p))] := hl
  refine lv_iload_n hx hb dX3_letterAt_0 rfl (lv_at hl 1 rfl) ?_
  refine zlt (tgt := 27) hx hb dX3_letterAt_1 (by decide) (by omega) ?_
  refine lv_iload_n hx hb dX3_letterAt_4 rfl (lv_at hl 1 rfl) ?_
  refine lv_aload_n hx hb dX3_letterAt_5 rfl (lv_at hl 0 rfl) ?_
  refine xget F hP inX3_letterAt_X3 0 rfl rfl 1 (by decide) lkX3_letterAt_1 rfl dX3_letterAt_6 ?_
  refine xge (tgt := 27) hx hb dX3_letterAt_9 (by decide) (by omega) (by omega) (fun c9 => ?_) (fun c9 => ?_)
  · skip
    refine lv_iconst (v := (-1)) hx hb dX3_letterAt_27 (by decide) ?_
    exact rtI F hP hD hS dX3_letterAt_28 (by first | exact ⟨(if_pos (by omega)).symm, rfl⟩ | exact ⟨(if_neg (by omega)).symm, rfl⟩)
  · skip
    refine lv_iload_n hx hb dX3_letterAt_12 rfl (lv_at hl 1 rfl) ?_
    refine lv_bipush (v := (nI 96)) hx hb dX3_letterAt_13 (by decide) ?_
    refine xge (tgt := 27) hx hb dX3_letterAt_15 (by decide) (by omega) (by omega) (fun c15 => ?_) (fun c15 => ?_)
    · skip
      refine lv_iconst (v := (-1)) hx hb dX3_letterAt_27 (by decide) ?_
      exact rtI F hP hD hS dX3_letterAt_28 (by first | exact ⟨(if_pos (by omega)).symm, rfl⟩ | exact ⟨(if_neg (by omega)).symm, rfl⟩)
    · skip
      refine lv_aload_n hx hb dX3_letterAt_18 rfl (lv_at hl 0 rfl) ?_
      refine xget F hP inX3_letterAt_X3 0 rfl rfl 0 (by decide) lkX3_letterAt_2 rfl dX3_letterAt_19 ?_
      refine lv_iload_n hx hb dX3_letterAt_22 rfl (lv_at hl 1 rfl) ?_
      refine xald F hP 1 (v := (nI (tx p))) rfl (by omega) (by omega) rfl dX3_letterAt_23 ?_
      refine lv_goto (tgt := 28) hx hb dX3_letterAt_24 (by decide) ?_
      exact rtI F hP hD hS dX3_letterAt_28 (by first | exact ⟨(if_pos (by omega)).symm, rfl⟩ | exact ⟨(if_neg (by omega)).symm, rfl⟩)

theorem kX3_digitAt : Cal yX3_digitAt wsX3_digitAt cX3_digitAt 2 (some .int) 1 := ⟨⟨_, rfl⟩, by decide +kernel⟩
set_option maxHeartbeats 1000000 in
set_option maxRecDepth 100000 in
theorem c_X3_digitAt (l : Launch) (g : EE) (t0 : Nat) (t1 : Nat) (tn_ : Nat) (tx : Nat → Nat) (p : Nat) (htn : tn_ ≤ 96) (htx : ∀ j, tx j < 256) (hp : p < tn_) (hd : 48 ≤ tx p ∧ tx p ≤ 57) : CI l yX3_digitAt wsX3_digitAt ({ frames := 1, cells := 0, slots := 0, locals := 21 }) g [.ref t0, .int (nI p)] [(t0, .inr (3, [.ref t1, .int (nI tn_)])), (t1, .inl (eI g, 96, .inl (fun j => nI (tx j))))] (fun (rz : Int32) (wz : va_W) => rz = (nI (dg tx p)) ∧ wz = [(t0, .inr (3, [.ref t1, .int (nI tn_)])), (t1, .inl (eI g, 96, .inl (fun j => nI (tx j))))]) 0 0 := by
  refine ctI (cc := cX3_digitAt) (maxL := 2) (ret := (some .int)) (by decide) rfl (Nat.le_of_ble_eq_true rfl) ?_
  intro p_ e_ s_ m_ bl_ mt_ cd_ A ls F hnm hP hD hS hl
  obtain ⟨hx, hb, hml, hown, hts, hK, hX, hA, hrt_, hlocks⟩ := id F
  have hl : lv_has ls 2 [(0, .ref t0), (1, .int (nI p))] := hl
  refine lv_aload_n hx hb dX3_digitAt_0 rfl (lv_at hl 0 rfl) ?_
  refine lv_iload_n hx hb dX3_digitAt_1 rfl (lv_at hl 1 rfl) ?_
  refine cVI (As := [.int (nI p)]) (rest := []) F (n_X3_letterAt l g t0 t1 tn_ tx p (htn) (htx) (hp)) kX3_letterAt rfl gX3_digitAt_X3_letterAt rfl rfl ⟨Nat.le_of_ble_eq_true rfl, Nat.le_of_ble_eq_true rfl⟩ hP hD hS [0, 1] [] rfl rfl 0 rfl rfl hl.1 rfl rfl (Nat.le_of_ble_eq_true rfl) dX3_digitAt_2 ⟨Nat.le_of_ble_eq_true rfl, Nat.le_of_ble_eq_true rfl⟩ (fun rz w1 H locs hpo hP hD hS => ?_)
  obtain ⟨rfl, rfl⟩ := hpo
  obtain ⟨hP, hD⟩ := nx (ws' := [(t0, .inr (3, [.ref t1, .int (nI tn_)])), (t1, .inl (eI g, 96, .inl (fun j => nI (tx j))))]) hP hD [0, 1] (ndB_ok _ rfl) rfl
  refine lv_bipush (v := (nI 48)) hx hb dX3_digitAt_5 (by decide) ?_
  refine xsub hx hb (by omega) dX3_digitAt_7 ?_
  exact rtI F hP hD hS dX3_digitAt_8 (⟨rfl, rfl⟩)

theorem kX3_pairAt : Cal yX3_pairAt wsX3_pairAt cX3_pairAt 2 (some .int) 1 := ⟨⟨_, rfl⟩, by decide +kernel⟩
set_option maxHeartbeats 1000000 in
set_option maxRecDepth 100000 in
theorem c_X3_pairAt (l : Launch) (g : EE) (t0 : Nat) (t1 : Nat) (tn_ : Nat) (tx : Nat → Nat) (p : Nat) (htn : tn_ ≤ 96) (htx : ∀ j, tx j < 256) (hp : p + 1 < tn_) (hd : 48 ≤ tx p ∧ tx p ≤ 57) (hd2 : 48 ≤ tx (p + 1) ∧ tx (p + 1) ≤ 57) : CI l yX3_pairAt wsX3_pairAt ({ frames := 2, cells := 0, slots := 0, locals := 42 }) g [.ref t0, .int (nI p)] [(t0, .inr (3, [.ref t1, .int (nI tn_)])), (t1, .inl (eI g, 96, .inl (fun j => nI (tx j))))] (fun (rz : Int32) (wz : va_W) => rz = (nI (pr2 tx p)) ∧ wz = [(t0, .inr (3, [.ref t1, .int (nI tn_)])), (t1, .inl (eI g, 96, .inl (fun j => nI (tx j))))]) 0 0 := by
  refine ctI (cc := cX3_pairAt) (maxL := 2) (ret := (some .int)) (by decide) rfl (Nat.le_of_ble_eq_true rfl) ?_
  intro p_ e_ s_ m_ bl_ mt_ cd_ A ls F hnm hP hD hS hl
  obtain ⟨hx, hb, hml, hown, hts, hK, hX, hA, hrt_, hlocks⟩ := id F
  have hl : lv_has ls 2 [(0, .ref t0), (1, .int (nI p))] := hl
  refine lv_aload_n hx hb dX3_pairAt_0 rfl (lv_at hl 0 rfl) ?_
  refine lv_iload_n hx hb dX3_pairAt_1 rfl (lv_at hl 1 rfl) ?_
  refine cVI (As := [.int (nI p)]) (rest := []) F (c_X3_digitAt l g t0 t1 tn_ tx p (htn) (htx) (by omega) (hd)) kX3_digitAt rfl gX3_pairAt_X3_digitAt rfl rfl ⟨Nat.le_of_ble_eq_true rfl, Nat.le_of_ble_eq_true rfl⟩ hP hD hS [0, 1] [] rfl rfl 0 rfl rfl hl.1 rfl rfl (Nat.le_of_ble_eq_true rfl) dX3_pairAt_2 ⟨Nat.le_of_ble_eq_true rfl, Nat.le_of_ble_eq_true rfl⟩ (fun rz w1 H locs hpo hP hD hS => ?_)
  obtain ⟨rfl, rfl⟩ := hpo
  obtain ⟨hP, hD⟩ := nx (ws' := [(t0, .inr (3, [.ref t1, .int (nI tn_)])), (t1, .inl (eI g, 96, .inl (fun j => nI (tx j))))]) hP hD [0, 1] (ndB_ok _ rfl) rfl
  refine lv_bipush (v := (nI 10)) hx hb dX3_pairAt_5 (by decide) ?_
  refine xmul hx hb dX3_pairAt_7 ?_
  refine lv_aload_n hx hb dX3_pairAt_8 rfl (lv_at hl 0 rfl) ?_
  refine lv_iload_n hx hb dX3_pairAt_9 rfl (lv_at hl 1 rfl) ?_
  refine lv_iconst (v := (nI 1)) hx hb dX3_pairAt_10 (by decide) ?_
  refine xadd hx hb dX3_pairAt_11 ?_
  refine cVI (As := [.int (nI (p + 1))]) (rest := [.int (nI ((dg tx p) * 10))]) F (c_X3_digitAt l g t0 t1 tn_ tx (p + 1) (htn) (htx) (hp) (hd2)) kX3_digitAt rfl gX3_pairAt_X3_digitAt rfl rfl ⟨Nat.le_of_ble_eq_true rfl, Nat.le_of_ble_eq_true rfl⟩ hP hD hS [0, 1] [] rfl rfl 0 rfl rfl hl.1 rfl rfl (Nat.le_of_ble_eq_true rfl) dX3_pairAt_12 ⟨Nat.le_of_ble_eq_true rfl, Nat.le_of_ble_eq_true rfl⟩ (fun rz w1 H locs hpo hP hD hS => ?_)
  obtain ⟨rfl, rfl⟩ := hpo
  obtain ⟨hP, hD⟩ := nx (ws' := [(t0, .inr (3, [.ref t1, .int (nI tn_)])), (t1, .inl (eI g, 96, .inl (fun j => nI (tx j))))]) hP hD [0, 1] (ndB_ok _ rfl) rfl
  refine xadd hx hb dX3_pairAt_15 ?_
  exact rtI F hP hD hS dX3_pairAt_16 (⟨rfl, rfl⟩)

theorem kX3_kindOf : Cal yX3_kindOf wsX3_kindOf cX3_kindOf 2 (some .int) 2 := ⟨⟨_, rfl⟩, by decide +kernel⟩
set_option maxHeartbeats 1000000 in
set_option maxRecDepth 100000 in
theorem m_X3_kindOf (l : Launch) (g : EE) (i : Nat) (hi : i < 9) : CI l yX3_kindOf wsX3_kindOf ({ frames := 0, cells := 0, slots := 0, locals := 0 }) g [.ref (eK g i), .int (-1)] [] (fun (rz : Int32) (wz : va_W) => rz = (-1) ∧ wz = []) 0 0 := by
  refine ctI (cc := cX3_kindOf) (maxL := 2) (ret := (some .int)) (by decide) rfl (Nat.le_of_ble_eq_true rfl) ?_
  intro p_ e_ s_ m_ bl_ mt_ cd_ A ls F hnm hP hD hS hl
  obtain ⟨hx, hb, hml, hown, hts, hK, hX, hA, hrt_, hlocks⟩ := id F
  have hl : lv_has ls 2 [(0, .ref (eK g i)), (1, .int (-1))] := hl
  refine lv_iload_n hx hb dX3_kindOf_0 rfl (lv_at hl 1 rfl) ?_
  refine wge (tgt := 8) hx hb dX3_kindOf_1 (by decide) (fun c => absurd c (by decide)) (fun c => ?_)
  refine lv_iconst (v := (-1)) hx hb dX3_kindOf_4 (by decide) ?_
  refine lv_goto (tgt := 14) hx hb dX3_kindOf_5 (by decide) ?_
  exact rtI F hP hD hS dX3_kindOf_14 (⟨rfl, rfl⟩)

set_option maxHeartbeats 1000000 in
set_option maxRecDepth 100000 in
theorem c_X3_kindOf (l : Launch) (g : EE) (i : Nat) (c_ : Nat) (hi : i < 9) (hc : c_ < 256) : CI l yX3_kindOf wsX3_kindOf ({ frames := 4, cells := 0, slots := 0, locals := 91 }) g [.ref (eK g i), .int (nI c_)] [] (fun (rz : Int32) (wz : va_W) => rz = (ixJ (fb i) c_ (ln i)) ∧ wz = []) 0 0 := by
  refine ctI (cc := cX3_kindOf) (maxL := 2) (ret := (some .int)) (by decide) rfl (Nat.le_of_ble_eq_true rfl) ?_
  intro p_ e_ s_ m_ bl_ mt_ cd_ A ls F hnm hP hD hS hl
  obtain ⟨hx, hb, hml, hown, hts, hK, hX, hA, hrt_, hlocks⟩ := id F
  have hl : lv_has ls 2 [(0, .ref (eK g i)), (1, .int (nI c_))] := hl
  refine lv_iload_n hx hb dX3_kindOf_0 rfl (lv_at hl 1 rfl) ?_
  refine zge (tgt := 8) hx hb dX3_kindOf_1 (by decide) (by omega) ?_
  refine lv_aload_n hx hb dX3_kindOf_8 rfl (lv_at hl 0 rfl) ?_
  refine lv_iload_n hx hb dX3_kindOf_9 rfl (lv_at hl 1 rfl) ?_
  refine lv_i2c (v := nI c_) hx hb dX3_kindOf_10 (i2c_d _ (by omega)) ?_
  refine cKI (As := [.int (nI c_)]) (rest := []) F (i := i) (c_J0_indexOf_0f7a4 l g i c_ (hi) (hc)) kJ0_indexOf_0f7a4 rfl gX3_kindOf_J0_indexOf_0f7a4 rfl rfl ⟨Nat.le_of_ble_eq_true rfl, Nat.le_of_ble_eq_true rfl⟩ hP hD hS [] [] rfl rfl (by omega) hl.1 rfl rfl (Nat.le_of_ble_eq_true rfl) dX3_kindOf_11 ⟨Nat.le_of_ble_eq_true rfl, Nat.le_of_ble_eq_true rfl⟩ (fun rz w1 H locs hpo hP hD hS => ?_)
  obtain ⟨rfl, rfl⟩ := hpo
  obtain ⟨hP, hD⟩ := nx (ws' := []) hP hD [] (ndB_ok _ rfl) rfl
  exact rtI F hP hD hS dX3_kindOf_14 (⟨rfl, rfl⟩)

theorem kX3_formOf : Cal yX3_formOf wsX3_formOf cX3_formOf 1 (some (.object "java/lang/String")) 1 := ⟨⟨_, rfl⟩, by decide +kernel⟩
set_option maxHeartbeats 1000000 in
set_option maxRecDepth 100000 in
theorem c_X3_formOf (l : Launch) (g : EE) (x : Int32)  : CR l yX3_formOf wsX3_formOf ({ frames := 0, cells := 0, slots := 0, locals := 0 }) g [.int x] [] (fun (rz : Nat) (wz : va_W) => rz = (eK g (fmI x)) ∧ wz = []) 0 0 := by
  refine ctR (cc := cX3_formOf) (maxL := 1) (ret := (some (.object "java/lang/String"))) (by decide) rfl (Nat.le_of_ble_eq_true rfl) ?_
  intro p_ e_ s_ m_ bl_ mt_ cd_ A ls F hnm hP hD hS hl
  obtain ⟨hx, hb, hml, hown, hts, hK, hX, hA, hrt_, hlocks⟩ := id F
  have hl : lv_has ls 1 [(0, .int x)] := hl
  refine lv_iload_n hx hb dX3_formOf_0 rfl (lv_at hl 0 rfl) ?_
  rcases (show x.toInt < 98 ∨ x.toInt = 98 ∨ x.toInt = 99 ∨ x.toInt = 100 ∨ x.toInt = 101 ∨ x.toInt = 102 ∨ x.toInt = 103 ∨ x.toInt = 104 ∨ x.toInt = 105 ∨ x.toInt = 106 ∨ x.toInt = 107 ∨ x.toInt = 108 ∨ x.toInt = 109 ∨ x.toInt = 110 ∨ x.toInt = 111 ∨ x.toInt = 112 ∨ x.toInt = 113 ∨ x.toInt = 114 ∨ x.toInt = 115 ∨ x.toInt = 116 ∨ 116 < x.toInt by omega) with c1 | c1 | c1 | c1 | c1 | c1 | c1 | c1 | c1 | c1 | c1 | c1 | c1 | c1 | c1 | c1 | c1 | c1 | c1 | c1 | c1
  · refine lv_tableOut (tgt := 110) hx hb dX3_formOf_1 (Or.inl (by omega)) (by decide) ?_
    refine xsK F rfl 6 (by decide) dX3_formOf_110 ?_
    exact rtR (post := fun (rz : Nat) (wz : va_W) => rz = (eK g (fmI x)) ∧ wz = []) F hP hD hS dX3_formOf_112 (⟨congrArg (eK g) (by unfold fmI; (repeat (first | rw [if_pos (by omega)] | rw [if_neg (by omega)]))), rfl⟩)
  · refine lv_tableIn (tgt := 95) hx hb dX3_formOf_1 (by rw [c1]; decide) (by rw [c1]; decide) (by rw [c1]; rfl) (by decide) ?_
    refine xsK F rfl 1 (by decide) dX3_formOf_95 ?_
    exact rtR (post := fun (rz : Nat) (wz : va_W) => rz = (eK g (fmI x)) ∧ wz = []) F hP hD hS dX3_formOf_97 (⟨congrArg (eK g) (by unfold fmI; (repeat (first | rw [if_pos (by omega)] | rw [if_neg (by omega)]))), rfl⟩)
  · refine lv_tableIn (tgt := 110) hx hb dX3_formOf_1 (by rw [c1]; decide) (by rw [c1]; decide) (by rw [c1]; rfl) (by decide) ?_
    refine xsK F rfl 6 (by decide) dX3_formOf_110 ?_
    exact rtR (post := fun (rz : Nat) (wz : va_W) => rz = (eK g (fmI x)) ∧ wz = []) F hP hD hS dX3_formOf_112 (⟨congrArg (eK g) (by unfold fmI; (repeat (first | rw [if_pos (by omega)] | rw [if_neg (by omega)]))), rfl⟩)
  · refine lv_tableIn (tgt := 110) hx hb dX3_formOf_1 (by rw [c1]; decide) (by rw [c1]; decide) (by rw [c1]; rfl) (by decide) ?_
    refine xsK F rfl 6 (by decide) dX3_formOf_110 ?_
    exact rtR (post := fun (rz : Nat) (wz : va_W) => rz = (eK g (fmI x)) ∧ wz = []) F hP hD hS dX3_formOf_112 (⟨congrArg (eK g) (by unfold fmI; (repeat (first | rw [if_pos (by omega)] | rw [if_neg (by omega)]))), rfl⟩)
  · refine lv_tableIn (tgt := 101) hx hb dX3_formOf_1 (by rw [c1]; decide) (by rw [c1]; decide) (by rw [c1]; rfl) (by decide) ?_
    refine xsK F rfl 3 (by decide) dX3_formOf_101 ?_
    exact rtR (post := fun (rz : Nat) (wz : va_W) => rz = (eK g (fmI x)) ∧ wz = []) F hP hD hS dX3_formOf_103 (⟨congrArg (eK g) (by unfold fmI; (repeat (first | rw [if_pos (by omega)] | rw [if_neg (by omega)]))), rfl⟩)
  · refine lv_tableIn (tgt := 110) hx hb dX3_formOf_1 (by rw [c1]; decide) (by rw [c1]; decide) (by rw [c1]; rfl) (by decide) ?_
    refine xsK F rfl 6 (by decide) dX3_formOf_110 ?_
    exact rtR (post := fun (rz : Nat) (wz : va_W) => rz = (eK g (fmI x)) ∧ wz = []) F hP hD hS dX3_formOf_112 (⟨congrArg (eK g) (by unfold fmI; (repeat (first | rw [if_pos (by omega)] | rw [if_neg (by omega)]))), rfl⟩)
  · refine lv_tableIn (tgt := 110) hx hb dX3_formOf_1 (by rw [c1]; decide) (by rw [c1]; decide) (by rw [c1]; rfl) (by decide) ?_
    refine xsK F rfl 6 (by decide) dX3_formOf_110 ?_
    exact rtR (post := fun (rz : Nat) (wz : va_W) => rz = (eK g (fmI x)) ∧ wz = []) F hP hD hS dX3_formOf_112 (⟨congrArg (eK g) (by unfold fmI; (repeat (first | rw [if_pos (by omega)] | rw [if_neg (by omega)]))), rfl⟩)
  · refine lv_tableIn (tgt := 110) hx hb dX3_formOf_1 (by rw [c1]; decide) (by rw [c1]; decide) (by rw [c1]; rfl) (by decide) ?_
    refine xsK F rfl 6 (by decide) dX3_formOf_110 ?_
    exact rtR (post := fun (rz : Nat) (wz : va_W) => rz = (eK g (fmI x)) ∧ wz = []) F hP hD hS dX3_formOf_112 (⟨congrArg (eK g) (by unfold fmI; (repeat (first | rw [if_pos (by omega)] | rw [if_neg (by omega)]))), rfl⟩)
  · refine lv_tableIn (tgt := 110) hx hb dX3_formOf_1 (by rw [c1]; decide) (by rw [c1]; decide) (by rw [c1]; rfl) (by decide) ?_
    refine xsK F rfl 6 (by decide) dX3_formOf_110 ?_
    exact rtR (post := fun (rz : Nat) (wz : va_W) => rz = (eK g (fmI x)) ∧ wz = []) F hP hD hS dX3_formOf_112 (⟨congrArg (eK g) (by unfold fmI; (repeat (first | rw [if_pos (by omega)] | rw [if_neg (by omega)]))), rfl⟩)
  · refine lv_tableIn (tgt := 110) hx hb dX3_formOf_1 (by rw [c1]; decide) (by rw [c1]; decide) (by rw [c1]; rfl) (by decide) ?_
    refine xsK F rfl 6 (by decide) dX3_formOf_110 ?_
    exact rtR (post := fun (rz : Nat) (wz : va_W) => rz = (eK g (fmI x)) ∧ wz = []) F hP hD hS dX3_formOf_112 (⟨congrArg (eK g) (by unfold fmI; (repeat (first | rw [if_pos (by omega)] | rw [if_neg (by omega)]))), rfl⟩)
  · refine lv_tableIn (tgt := 110) hx hb dX3_formOf_1 (by rw [c1]; decide) (by rw [c1]; decide) (by rw [c1]; rfl) (by decide) ?_
    refine xsK F rfl 6 (by decide) dX3_formOf_110 ?_
    exact rtR (post := fun (rz : Nat) (wz : va_W) => rz = (eK g (fmI x)) ∧ wz = []) F hP hD hS dX3_formOf_112 (⟨congrArg (eK g) (by unfold fmI; (repeat (first | rw [if_pos (by omega)] | rw [if_neg (by omega)]))), rfl⟩)
  · refine lv_tableIn (tgt := 92) hx hb dX3_formOf_1 (by rw [c1]; decide) (by rw [c1]; decide) (by rw [c1]; rfl) (by decide) ?_
    refine xsK F rfl 0 (by decide) dX3_formOf_92 ?_
    exact rtR (post := fun (rz : Nat) (wz : va_W) => rz = (eK g (fmI x)) ∧ wz = []) F hP hD hS dX3_formOf_94 (⟨congrArg (eK g) (by unfold fmI; (repeat (first | rw [if_pos (by omega)] | rw [if_neg (by omega)]))), rfl⟩)
  · refine lv_tableIn (tgt := 110) hx hb dX3_formOf_1 (by rw [c1]; decide) (by rw [c1]; decide) (by rw [c1]; rfl) (by decide) ?_
    refine xsK F rfl 6 (by decide) dX3_formOf_110 ?_
    exact rtR (post := fun (rz : Nat) (wz : va_W) => rz = (eK g (fmI x)) ∧ wz = []) F hP hD hS dX3_formOf_112 (⟨congrArg (eK g) (by unfold fmI; (repeat (first | rw [if_pos (by omega)] | rw [if_neg (by omega)]))), rfl⟩)
  · refine lv_tableIn (tgt := 110) hx hb dX3_formOf_1 (by rw [c1]; decide) (by rw [c1]; decide) (by rw [c1]; rfl) (by decide) ?_
    refine xsK F rfl 6 (by decide) dX3_formOf_110 ?_
    exact rtR (post := fun (rz : Nat) (wz : va_W) => rz = (eK g (fmI x)) ∧ wz = []) F hP hD hS dX3_formOf_112 (⟨congrArg (eK g) (by unfold fmI; (repeat (first | rw [if_pos (by omega)] | rw [if_neg (by omega)]))), rfl⟩)
  · refine lv_tableIn (tgt := 110) hx hb dX3_formOf_1 (by rw [c1]; decide) (by rw [c1]; decide) (by rw [c1]; rfl) (by decide) ?_
    refine xsK F rfl 6 (by decide) dX3_formOf_110 ?_
    exact rtR (post := fun (rz : Nat) (wz : va_W) => rz = (eK g (fmI x)) ∧ wz = []) F hP hD hS dX3_formOf_112 (⟨congrArg (eK g) (by unfold fmI; (repeat (first | rw [if_pos (by omega)] | rw [if_neg (by omega)]))), rfl⟩)
  · refine lv_tableIn (tgt := 104) hx hb dX3_formOf_1 (by rw [c1]; decide) (by rw [c1]; decide) (by rw [c1]; rfl) (by decide) ?_
    refine xsK F rfl 4 (by decide) dX3_formOf_104 ?_
    exact rtR (post := fun (rz : Nat) (wz : va_W) => rz = (eK g (fmI x)) ∧ wz = []) F hP hD hS dX3_formOf_106 (⟨congrArg (eK g) (by unfold fmI; (repeat (first | rw [if_pos (by omega)] | rw [if_neg (by omega)]))), rfl⟩)
  · refine lv_tableIn (tgt := 110) hx hb dX3_formOf_1 (by rw [c1]; decide) (by rw [c1]; decide) (by rw [c1]; rfl) (by decide) ?_
    refine xsK F rfl 6 (by decide) dX3_formOf_110 ?_
    exact rtR (post := fun (rz : Nat) (wz : va_W) => rz = (eK g (fmI x)) ∧ wz = []) F hP hD hS dX3_formOf_112 (⟨congrArg (eK g) (by unfold fmI; (repeat (first | rw [if_pos (by omega)] | rw [if_neg (by omega)]))), rfl⟩)
  · refine lv_tableIn (tgt := 110) hx hb dX3_formOf_1 (by rw [c1]; decide) (by rw [c1]; decide) (by rw [c1]; rfl) (by decide) ?_
    refine xsK F rfl 6 (by decide) dX3_formOf_110 ?_
    exact rtR (post := fun (rz : Nat) (wz : va_W) => rz = (eK g (fmI x)) ∧ wz = []) F hP hD hS dX3_formOf_112 (⟨congrArg (eK g) (by unfold fmI; (repeat (first | rw [if_pos (by omega)] | rw [if_neg (by omega)]))), rfl⟩)
  · refine lv_tableIn (tgt := 98) hx hb dX3_formOf_1 (by rw [c1]; decide) (by rw [c1]; decide) (by rw [c1]; rfl) (by decide) ?_
    refine xsK F rfl 2 (by decide) dX3_formOf_98 ?_
    exact rtR (post := fun (rz : Nat) (wz : va_W) => rz = (eK g (fmI x)) ∧ wz = []) F hP hD hS dX3_formOf_100 (⟨congrArg (eK g) (by unfold fmI; (repeat (first | rw [if_pos (by omega)] | rw [if_neg (by omega)]))), rfl⟩)
  · refine lv_tableIn (tgt := 107) hx hb dX3_formOf_1 (by rw [c1]; decide) (by rw [c1]; decide) (by rw [c1]; rfl) (by decide) ?_
    refine xsK F rfl 5 (by decide) dX3_formOf_107 ?_
    exact rtR (post := fun (rz : Nat) (wz : va_W) => rz = (eK g (fmI x)) ∧ wz = []) F hP hD hS dX3_formOf_109 (⟨congrArg (eK g) (by unfold fmI; (repeat (first | rw [if_pos (by omega)] | rw [if_neg (by omega)]))), rfl⟩)
  · refine lv_tableOut (tgt := 110) hx hb dX3_formOf_1 (Or.inr (by omega)) (by decide) ?_
    refine xsK F rfl 6 (by decide) dX3_formOf_110 ?_
    exact rtR (post := fun (rz : Nat) (wz : va_W) => rz = (eK g (fmI x)) ∧ wz = []) F hP hD hS dX3_formOf_112 (⟨congrArg (eK g) (by unfold fmI; (repeat (first | rw [if_pos (by omega)] | rw [if_neg (by omega)]))), rfl⟩)

theorem kX3_fits : Cal yX3_fits wsX3_fits cX3_fits 2 (some .boolean) 2 := ⟨⟨_, rfl⟩, by decide +kernel⟩
set_option maxHeartbeats 1000000 in
set_option maxRecDepth 100000 in
theorem m_X3_fits (l : Launch) (g : EE) (f_ : Nat) (hf : f_ < 128) : CI l yX3_fits wsX3_fits ({ frames := 1, cells := 0, slots := 0, locals := 21 }) g [.int (nI f_), .int (-1)] [] (fun (rz : Int32) (wz : va_W) => rz = (nI 0) ∧ wz = []) 0 0 := by
  refine ctI (cc := cX3_fits) (maxL := 2) (ret := (some .boolean)) (by decide) rfl (Nat.le_of_ble_eq_true rfl) ?_
  intro p_ e_ s_ m_ bl_ mt_ cd_ A ls F hnm hP hD hS hl
  obtain ⟨hx, hb, hml, hown, hts, hK, hX, hA, hrt_, hlocks⟩ := id F
  have hl : lv_has ls 2 [(0, .int (nI f_)), (1, .int (-1))] := hl
  have hm1 : ((-1 : Int32)).toInt = -1 := by decide
  refine lv_iload_n hx hb dX3_fits_0 rfl (lv_at hl 0 rfl) ?_
  rcases (show f_ = 48 ∨ f_ = 101 ∨ f_ = 115 ∨ (f_ ≠ 48 ∧ f_ ≠ 101 ∧ f_ ≠ 115) by omega) with c1 | c1 | c1 | c1
  · refine lv_lookup (tgt := 36) hx hb dX3_fits_1 (by decide) (by rw [c1] <;> decide) (by decide) ?_
    refine lv_iload_n hx hb dX3_fits_36 rfl (lv_at hl 1 rfl) ?_
    refine lv_bipush (v := (nI 48)) hx hb dX3_fits_37 (by decide) ?_
    refine ylt (tgt := 52) hx hb dX3_fits_39 (by decide) (by omega) (fun c39 => ?_) (fun c39 => ?_)
    · skip
      refine lv_iconst (v := (nI 0)) hx hb dX3_fits_52 (by decide) ?_
      exact rtZ F hP hD hS dX3_fits_53 (rfl) (by first | exact ⟨rfl, rfl⟩ | (exfalso; omega))
    · skip
      exfalso; omega
  · refine lv_lookup (tgt := 69) hx hb dX3_fits_1 (by decide) (by rw [c1] <;> decide) (by decide) ?_
    refine xsK F rfl 8 (by decide) dX3_fits_69 ?_
    refine lv_iload_n hx hb dX3_fits_71 rfl (lv_at hl 1 rfl) ?_
    refine cSI (As := [.ref (eK g 8), .int (-1)]) (rest := []) F (m_X3_kindOf l g 8 (by decide)) kX3_kindOf gX3_fits_X3_kindOf rfl rfl ⟨Nat.le_of_ble_eq_true rfl, Nat.le_of_ble_eq_true rfl⟩ hP hD hS [] [] rfl rfl hl.1 rfl rfl (Nat.le_of_ble_eq_true rfl) dX3_fits_72 ⟨Nat.le_of_ble_eq_true rfl, Nat.le_of_ble_eq_true rfl⟩ (fun rz w1 H locs hpo hP hD hS => ?_)
    obtain ⟨rfl, rfl⟩ := hpo
    obtain ⟨hP, hD⟩ := nx (ws' := []) hP hD [] (ndB_ok _ rfl) rfl
    refine wlt (tgt := 82) hx hb dX3_fits_75 (by decide) (fun c => ?_) (fun c => absurd c (by decide))
    refine lv_iconst (v := (nI 0)) hx hb dX3_fits_82 (by decide) ?_
    exact rtZ F hP hD hS dX3_fits_83 (rfl) (by first | exact ⟨rfl, rfl⟩ | (exfalso; omega))
  · refine lv_lookup (tgt := 54) hx hb dX3_fits_1 (by decide) (by rw [c1] <;> decide) (by decide) ?_
    refine xsK F rfl 7 (by decide) dX3_fits_54 ?_
    refine lv_iload_n hx hb dX3_fits_56 rfl (lv_at hl 1 rfl) ?_
    refine cSI (As := [.ref (eK g 7), .int (-1)]) (rest := []) F (m_X3_kindOf l g 7 (by decide)) kX3_kindOf gX3_fits_X3_kindOf rfl rfl ⟨Nat.le_of_ble_eq_true rfl, Nat.le_of_ble_eq_true rfl⟩ hP hD hS [] [] rfl rfl hl.1 rfl rfl (Nat.le_of_ble_eq_true rfl) dX3_fits_57 ⟨Nat.le_of_ble_eq_true rfl, Nat.le_of_ble_eq_true rfl⟩ (fun rz w1 H locs hpo hP hD hS => ?_)
    obtain ⟨rfl, rfl⟩ := hpo
    obtain ⟨hP, hD⟩ := nx (ws' := []) hP hD [] (ndB_ok _ rfl) rfl
    refine wlt (tgt := 67) hx hb dX3_fits_60 (by decide) (fun c => ?_) (fun c => absurd c (by decide))
    refine lv_iconst (v := (nI 0)) hx hb dX3_fits_67 (by decide) ?_
    exact rtZ F hP hD hS dX3_fits_68 (rfl) (by first | exact ⟨rfl, rfl⟩ | (exfalso; omega))
  · refine lv_lookup (tgt := 84) hx hb dX3_fits_1 (by decide) (off := 83) (show Op.lookupswitch.offset [(48, 35), (101, 68), (115, 53)] 83 (nI f_).toInt = 83 by rw [lv_osw (k := nI 48) (nI_neq (by omega) (by omega) (by omega)) (by decide), lv_osw (k := nI 101) (nI_neq (by omega) (by omega) (by omega)) (by decide), lv_osw (k := nI 115) (nI_neq (by omega) (by omega) (by omega)) (by decide)]; rfl) (by decide) ?_
    refine lv_iload_n hx hb dX3_fits_84 rfl (lv_at hl 1 rfl) ?_
    refine lv_iload_n hx hb dX3_fits_85 rfl (lv_at hl 0 rfl) ?_
    refine yne (tgt := 93) hx hb dX3_fits_86 (by decide) (by omega) (fun c86 => ?_) (fun c86 => ?_)
    · skip
      refine lv_iconst (v := (nI 0)) hx hb dX3_fits_93 (by decide) ?_
      exact rtZ F hP hD hS dX3_fits_94 (rfl) (by first | exact ⟨rfl, rfl⟩ | (exfalso; omega))
    · skip
      exfalso; omega

set_option maxHeartbeats 1000000 in
set_option maxRecDepth 100000 in
theorem c_X3_fits (l : Launch) (g : EE) (f_ : Nat) (c_ : Nat) (hf : f_ < 128) (hc : c_ < 256) : CI l yX3_fits wsX3_fits ({ frames := 5, cells := 0, slots := 0, locals := 112 }) g [.int (nI f_), .int (nI c_)] [] (fun (rz : Int32) (wz : va_W) => rz = (nI (if okc f_ c_ = true then 1 else 0)) ∧ wz = []) 0 0 := by
  refine ctI (cc := cX3_fits) (maxL := 2) (ret := (some .boolean)) (by decide) rfl (Nat.le_of_ble_eq_true rfl) ?_
  intro p_ e_ s_ m_ bl_ mt_ cd_ A ls F hnm hP hD hS hl
  obtain ⟨hx, hb, hml, hown, hts, hK, hX, hA, hrt_, hlocks⟩ := id F
  have hl : lv_has ls 2 [(0, .int (nI f_)), (1, .int (nI c_))] := hl
  refine lv_iload_n hx hb dX3_fits_0 rfl (lv_at hl 0 rfl) ?_
  rcases (show f_ = 48 ∨ f_ = 101 ∨ f_ = 115 ∨ (f_ ≠ 48 ∧ f_ ≠ 101 ∧ f_ ≠ 115) by omega) with c1 | c1 | c1 | c1
  · refine lv_lookup (tgt := 36) hx hb dX3_fits_1 (by decide) (by rw [c1] <;> decide) (by decide) ?_
    refine lv_iload_n hx hb dX3_fits_36 rfl (lv_at hl 1 rfl) ?_
    refine lv_bipush (v := (nI 48)) hx hb dX3_fits_37 (by decide) ?_
    refine xlt (tgt := 52) hx hb dX3_fits_39 (by decide) (by omega) (by omega) (fun c39 => ?_) (fun c39 => ?_)
    · skip
      refine lv_iconst (v := (nI 0)) hx hb dX3_fits_52 (by decide) ?_
      exact rtZ F hP hD hS dX3_fits_53 (rfl) (⟨congrArg nI (if_neg (by rw [c1]; unfold okc; rw [if_pos rfl]; intro q; have := of_decide_eq_true q; omega)).symm, rfl⟩)
    · skip
      refine lv_iload_n hx hb dX3_fits_42 rfl (lv_at hl 1 rfl) ?_
      refine lv_bipush (v := (nI 57)) hx hb dX3_fits_43 (by decide) ?_
      refine xgt (tgt := 52) hx hb dX3_fits_45 (by decide) (by omega) (by omega) (fun c45 => ?_) (fun c45 => ?_)
      · skip
        refine lv_iconst (v := (nI 0)) hx hb dX3_fits_52 (by decide) ?_
        exact rtZ F hP hD hS dX3_fits_53 (rfl) (⟨congrArg nI (if_neg (by rw [c1]; unfold okc; rw [if_pos rfl]; intro q; have := of_decide_eq_true q; omega)).symm, rfl⟩)
      · skip
        refine lv_iconst (v := (nI 1)) hx hb dX3_fits_48 (by decide) ?_
        refine lv_goto (tgt := 53) hx hb dX3_fits_49 (by decide) ?_
        exact rtZ F hP hD hS dX3_fits_53 (rfl) (⟨congrArg nI (if_pos (by rw [c1]; unfold okc; rw [if_pos rfl]; exact decide_eq_true ⟨by omega, by omega⟩)).symm, rfl⟩)
  · refine lv_lookup (tgt := 69) hx hb dX3_fits_1 (by decide) (by rw [c1] <;> decide) (by decide) ?_
    refine xsK F rfl 8 (by decide) dX3_fits_69 ?_
    refine lv_iload_n hx hb dX3_fits_71 rfl (lv_at hl 1 rfl) ?_
    refine cSI (As := [.ref (eK g 8), .int (nI c_)]) (rest := []) F (c_X3_kindOf l g 8 c_ (by decide) (hc)) kX3_kindOf gX3_fits_X3_kindOf rfl rfl ⟨Nat.le_of_ble_eq_true rfl, Nat.le_of_ble_eq_true rfl⟩ hP hD hS [] [] rfl rfl hl.1 rfl rfl (Nat.le_of_ble_eq_true rfl) dX3_fits_72 ⟨Nat.le_of_ble_eq_true rfl, Nat.le_of_ble_eq_true rfl⟩ (fun rz w1 H locs hpo hP hD hS => ?_)
    obtain ⟨rfl, rfl⟩ := hpo
    obtain ⟨hP, hD⟩ := nx (ws' := []) hP hD [] (ndB_ok _ rfl) rfl
    refine wlt (tgt := 82) hx hb dX3_fits_75 (by decide) (fun c75 => ?_) (fun c75 => ?_)
    · skip
      refine lv_iconst (v := (nI 0)) hx hb dX3_fits_82 (by decide) ?_
      exact rtZ F hP hD hS dX3_fits_83 (rfl) (⟨congrArg nI (if_neg (by rw [c1]; unfold okc; rw [if_neg (by decide), if_neg (by decide), if_pos rfl]; intro q; exact absurd (of_decide_eq_true q) ((ixJ_neg (f := fb 8) (c := c_) (n := ln 8) (by decide)).mp c75))).symm, rfl⟩)
    · skip
      refine lv_iconst (v := (nI 1)) hx hb dX3_fits_78 (by decide) ?_
      refine lv_goto (tgt := 83) hx hb dX3_fits_79 (by decide) ?_
      exact rtZ F hP hD hS dX3_fits_83 (rfl) (⟨congrArg nI (if_pos (by rw [c1]; unfold okc; rw [if_neg (by decide), if_neg (by decide), if_pos rfl]; exact decide_eq_true (Classical.byContradiction (fun q => absurd ((ixJ_neg (f := fb 8) (c := c_) (n := ln 8) (by decide)).mpr q) (by omega))))).symm, rfl⟩)
  · refine lv_lookup (tgt := 54) hx hb dX3_fits_1 (by decide) (by rw [c1] <;> decide) (by decide) ?_
    refine xsK F rfl 7 (by decide) dX3_fits_54 ?_
    refine lv_iload_n hx hb dX3_fits_56 rfl (lv_at hl 1 rfl) ?_
    refine cSI (As := [.ref (eK g 7), .int (nI c_)]) (rest := []) F (c_X3_kindOf l g 7 c_ (by decide) (hc)) kX3_kindOf gX3_fits_X3_kindOf rfl rfl ⟨Nat.le_of_ble_eq_true rfl, Nat.le_of_ble_eq_true rfl⟩ hP hD hS [] [] rfl rfl hl.1 rfl rfl (Nat.le_of_ble_eq_true rfl) dX3_fits_57 ⟨Nat.le_of_ble_eq_true rfl, Nat.le_of_ble_eq_true rfl⟩ (fun rz w1 H locs hpo hP hD hS => ?_)
    obtain ⟨rfl, rfl⟩ := hpo
    obtain ⟨hP, hD⟩ := nx (ws' := []) hP hD [] (ndB_ok _ rfl) rfl
    refine wlt (tgt := 67) hx hb dX3_fits_60 (by decide) (fun c60 => ?_) (fun c60 => ?_)
    · skip
      refine lv_iconst (v := (nI 0)) hx hb dX3_fits_67 (by decide) ?_
      exact rtZ F hP hD hS dX3_fits_68 (rfl) (⟨congrArg nI (if_neg (by rw [c1]; unfold okc; rw [if_neg (by decide), if_pos rfl]; intro q; exact absurd (of_decide_eq_true q) ((ixJ_neg (f := fb 7) (c := c_) (n := ln 7) (by decide)).mp c60))).symm, rfl⟩)
    · skip
      refine lv_iconst (v := (nI 1)) hx hb dX3_fits_63 (by decide) ?_
      refine lv_goto (tgt := 68) hx hb dX3_fits_64 (by decide) ?_
      exact rtZ F hP hD hS dX3_fits_68 (rfl) (⟨congrArg nI (if_pos (by rw [c1]; unfold okc; rw [if_neg (by decide), if_pos rfl]; exact decide_eq_true (Classical.byContradiction (fun q => absurd ((ixJ_neg (f := fb 7) (c := c_) (n := ln 7) (by decide)).mpr q) (by omega))))).symm, rfl⟩)
  · refine lv_lookup (tgt := 84) hx hb dX3_fits_1 (by decide) (off := 83) (show Op.lookupswitch.offset [(48, 35), (101, 68), (115, 53)] 83 (nI f_).toInt = 83 by rw [lv_osw (k := nI 48) (nI_neq (by omega) (by omega) (by omega)) (by decide), lv_osw (k := nI 101) (nI_neq (by omega) (by omega) (by omega)) (by decide), lv_osw (k := nI 115) (nI_neq (by omega) (by omega) (by omega)) (by decide)]; rfl) (by decide) ?_
    refine lv_iload_n hx hb dX3_fits_84 rfl (lv_at hl 1 rfl) ?_
    refine lv_iload_n hx hb dX3_fits_85 rfl (lv_at hl 0 rfl) ?_
    refine xne (tgt := 93) hx hb dX3_fits_86 (by decide) (by omega) (by omega) (fun c86 => ?_) (fun c86 => ?_)
    · skip
      refine lv_iconst (v := (nI 0)) hx hb dX3_fits_93 (by decide) ?_
      exact rtZ F hP hD hS dX3_fits_94 (rfl) (⟨congrArg nI (if_neg (by unfold okc; rw [if_neg c1.1, if_neg c1.2.2, if_neg c1.2.1]; intro q; exact c86 (of_decide_eq_true q))).symm, rfl⟩)
    · skip
      refine lv_iconst (v := (nI 1)) hx hb dX3_fits_89 (by decide) ?_
      refine lv_goto (tgt := 94) hx hb dX3_fits_90 (by decide) ?_
      exact rtZ F hP hD hS dX3_fits_94 (rfl) (⟨congrArg nI (if_pos (by unfold okc; rw [if_neg c1.1, if_neg c1.2.2, if_neg c1.2.1]; exact decide_eq_true c86)).symm, rfl⟩)

theorem inX3_firstMisfit_X3 : ∀ w ∈ u_ws RX3 TX3 2, w ∈ wsX3_firstMisfit := fun _ h => (List.mem_cons_of_mem _ (List.mem_append_right _ h))
theorem lkX3_firstMisfit_1 : Cond.fieldLink RX3 15 "StripInFiveSteps$Text" "size" "I" ∈ wsX3_firstMisfit := List.mem_of_getElem? (i := 1) rfl
theorem kX3_firstMisfit : Cal yX3_firstMisfit wsX3_firstMisfit cX3_firstMisfit 4 (some .int) 0 := ⟨⟨_, rfl⟩, by decide +kernel⟩
set_option maxHeartbeats 1000000 in
set_option maxRecDepth 100000 in
theorem c_X3_firstMisfit (l : Launch) (g : EE) (t0 : Nat) (t1 : Nat) (tn_ : Nat) (tx : Nat → Nat) (htn : tn_ ≤ 96) (htx : ∀ j, tx j < 256) : CI l yX3_firstMisfit wsX3_firstMisfit ({ frames := 6, cells := 0, slots := 0, locals := 133 }) g [.ref t0] [(t0, .inr (3, [.ref t1, .int (nI tn_)])), (t1, .inl (eI g, 96, .inl (fun j => nI (tx j))))] (fun (rz : Int32) (wz : va_W) => rz = (if (ms tx tn_ 100 0).2 = 0 then nI (ms tx tn_ 100 0).1 else -9) ∧ wz = [(t0, .inr (3, [.ref t1, .int (nI tn_)])), (t1, .inl (eI g, 96, .inl (fun j => nI (tx j))))]) 0 0 := by
  refine ctI (cc := cX3_firstMisfit) (maxL := 4) (ret := (some .int)) (by decide) rfl (Nat.le_of_ble_eq_true rfl) ?_
  intro p_ e_ s_ m_ bl_ mt_ cd_ A ls F hnm hP hD hS hl
  obtain ⟨hx, hb, hml, hown, hts, hK, hX, hA, hrt_, hlocks⟩ := id F
  have hl : lv_has ls 4 [(0, .ref t0)] := hl
  refine lv_iconst (v := (nI 0)) hx hb dX3_firstMisfit_0 (by decide) ?_
  refine lv_istore_n (lv' := [(1, .int (nI 0)), (0, .ref t0)]) hx hb dX3_firstMisfit_1 rfl hl (by decide) rfl (fun ls hl => ?_)
  refine xlo (σ := Nat × Nat) 4 (fun xz_ => (fun (p : Nat) (d : Nat) => [(0, .ref t0), (1, .int (nI p))]) xz_.1 xz_.2) (fun xz_ => (fun (p : Nat) (d : Nat) => [(t0, .inr (3, [.ref t1, .int (nI tn_)])), (t1, .inl (eI g, 96, .inl (fun j => nI (tx j))))]) xz_.1 xz_.2) (fun xz_ => (fun (p : Nat) (d : Nat) => ms tx tn_ 100 0 = ms tx tn_ (d + 1) p ∧ tn_ ≤ p + d ∧ p ≤ 96) xz_.1 xz_.2) (fun xz_ => (fun (p : Nat) (d : Nat) => d) xz_.1 xz_.2) (fun xz_ hI ih2 H locs ls hP hD hS hl => ?_) (0, 99) (show ms tx tn_ 100 0 = ms tx tn_ (99 + 1) 0 ∧ tn_ ≤ 0 + 99 ∧ 0 ≤ 96 from (⟨rfl, by omega, by omega⟩)) hP hD hS (lv_sub hl [1, 0] rfl)
  obtain ⟨p, d⟩ := xz_
  have hP : va_P (eD g) vwCl [(t0, .inr (3, [.ref t1, .int (nI tn_)])), (t1, .inl (eI g, 96, .inl (fun j => nI (tx j))))] H := hP
  have hD : va_D A [(t0, .inr (3, [.ref t1, .int (nI tn_)])), (t1, .inl (eI g, 96, .inl (fun j => nI (tx j))))] := hD
  have hl : lv_has ls 4 [(0, .ref t0), (1, .int (nI p))] := hl
  have hI2 : ms tx tn_ 100 0 = ms tx tn_ (d + 1) p ∧ tn_ ≤ p + d ∧ p ≤ 96 := hI
  clear hI
  obtain ⟨hms, htd, hp96⟩ := id hI2
  refine lv_aload_n hx hb dX3_firstMisfit_2 rfl (lv_at hl 0 rfl) ?_
  refine lv_iload_n hx hb dX3_firstMisfit_3 rfl (lv_at hl 1 rfl) ?_
  refine cVI (As := [.int (nI p)]) (rest := []) F (c_X3_letterAt l g t0 t1 tn_ tx p (htn) (htx) (by omega)) kX3_letterAt rfl gX3_firstMisfit_X3_letterAt rfl rfl ⟨Nat.le_of_ble_eq_true rfl, Nat.le_of_ble_eq_true rfl⟩ hP hD hS [0, 1] [] rfl rfl 0 rfl rfl hl.1 rfl rfl (Nat.le_of_ble_eq_true rfl) dX3_firstMisfit_4 ⟨Nat.le_of_ble_eq_true rfl, Nat.le_of_ble_eq_true rfl⟩ (fun rz w1 H locs hpo hP hD hS => ?_)
  obtain ⟨rfl, rfl⟩ := hpo
  obtain ⟨hP, hD⟩ := nx (ws' := [(t0, .inr (3, [.ref t1, .int (nI tn_)])), (t1, .inl (eI g, 96, .inl (fun j => nI (tx j))))]) hP hD [0, 1] (ndB_ok _ rfl) rfl
  refine cSR (As := [.int (ltI tx tn_ p)]) (rest := []) F (c_X3_formOf l g (ltI tx tn_ p) ) kX3_formOf gX3_firstMisfit_X3_formOf rfl rfl ⟨Nat.le_of_ble_eq_true rfl, Nat.le_of_ble_eq_true rfl⟩ hP hD hS [] [0, 1] rfl rfl hl.1 rfl rfl (Nat.le_of_ble_eq_true rfl) dX3_firstMisfit_7 ⟨Nat.le_of_ble_eq_true rfl, Nat.le_of_ble_eq_true rfl⟩ (fun rz w1 H locs hpo hP hD hS => ?_)
  obtain ⟨rfl, rfl⟩ := hpo
  obtain ⟨hP, hD⟩ := nx (ws' := [(t0, .inr (3, [.ref t1, .int (nI tn_)])), (t1, .inl (eI g, 96, .inl (fun j => nI (tx j))))]) hP hD [0, 1] (ndB_ok _ rfl) rfl
  obtain ⟨i, hii⟩ : ∃ i, i = fmI (ltI tx tn_ p) := ⟨_, rfl⟩
  rw [← hii]
  have hi6 : i ≤ 6 := by rw [hii]; exact fmI_b _
  have hl6 := ln_b i (by omega)
  have hst := fm_case (tx := tx) (tn := tn_) (p := p) htx hii
  refine lv_astore_n (lv' := [(2, .ref (eK g i)), (0, .ref t0), (1, .int (nI p))]) hx hb dX3_firstMisfit_10 rfl hl (by decide) rfl (fun ls hl => ?_)
  refine lv_aload_n hx hb dX3_firstMisfit_11 rfl (lv_at hl 0 rfl) ?_
  refine cKI (As := []) (rest := []) F (i := i) (c_J0_isEmpty_aae02 l g i (by omega)) kJ0_isEmpty_aae02 rfl gX3_firstMisfit_J0_isEmpty_aae02 rfl rfl ⟨Nat.le_of_ble_eq_true rfl, Nat.le_of_ble_eq_true rfl⟩ hP hD hS [] [0, 1] rfl rfl (by omega) hl.1 rfl rfl (Nat.le_of_ble_eq_true rfl) dX3_firstMisfit_12 ⟨Nat.le_of_ble_eq_true rfl, Nat.le_of_ble_eq_true rfl⟩ (fun rz w1 H locs hpo hP hD hS => ?_)
  obtain ⟨rfl, rfl⟩ := hpo
  obtain ⟨hP, hD⟩ := nx (ws' := [(t0, .inr (3, [.ref t1, .int (nI tn_)])), (t1, .inl (eI g, 96, .inl (fun j => nI (tx j))))]) hP hD [0, 1] (ndB_ok _ rfl) rfl
  refine bqeq (tgt := 20) hx hb dX3_firstMisfit_15 (by decide) (fun c15 => ?_) (fun c15 => ?_)
  · skip
    refine lv_iinc (v := (nI (p + 1))) (lv' := [(1, .int (nI (p + 1))), (2, .ref (eK g i)), (0, .ref t0)]) hx hb dX3_firstMisfit_20 hl (k := 2) rfl (iincP p 1) (by decide) rfl (fun ls hl => ?_)
    refine lv_iconst (v := (nI 0)) hx hb dX3_firstMisfit_23 (by decide) ?_
    refine lv_istore_n (lv' := [(3, .int (nI 0)), (1, .int (nI (p + 1))), (2, .ref (eK g i)), (0, .ref t0)]) hx hb dX3_firstMisfit_24 rfl hl (by decide) rfl (fun ls hl => ?_)
    refine xlo (σ := Nat × Nat) 4 (fun xz_ => (fun (k : Nat) (q : Nat) => [(0, .ref t0), (1, .int (nI q)), (2, .ref (eK g i)), (3, .int (nI k))]) xz_.1 xz_.2) (fun xz_ => (fun (k : Nat) (q : Nat) => [(t0, .inr (3, [.ref t1, .int (nI tn_)])), (t1, .inl (eI g, 96, .inl (fun j => nI (tx j))))]) xz_.1 xz_.2) (fun xz_ => (fun (k : Nat) (q : Nat) => scn tx tn_ i k (p + 1, 1) = (q, 1) ∧ q = p + 1 + k ∧ k ≤ ln i ∧ q ≤ 97) xz_.1 xz_.2) (fun xz_ => (fun (k : Nat) (q : Nat) => ln i - k) xz_.1 xz_.2) (fun xz_ hI ih25 H locs ls hP hD hS hl => ?_) (0, p + 1) (show scn tx tn_ i 0 (p + 1, 1) = ((p + 1), 1) ∧ (p + 1) = p + 1 + 0 ∧ 0 ≤ ln i ∧ (p + 1) ≤ 97 from (⟨rfl, by omega, by omega, by omega⟩)) hP hD hS (lv_sub hl [3, 1, 2, 0] rfl)
    obtain ⟨k, q⟩ := xz_
    have hP : va_P (eD g) vwCl [(t0, .inr (3, [.ref t1, .int (nI tn_)])), (t1, .inl (eI g, 96, .inl (fun j => nI (tx j))))] H := hP
    have hD : va_D A [(t0, .inr (3, [.ref t1, .int (nI tn_)])), (t1, .inl (eI g, 96, .inl (fun j => nI (tx j))))] := hD
    have hl : lv_has ls 4 [(0, .ref t0), (1, .int (nI q)), (2, .ref (eK g i)), (3, .int (nI k))] := hl
    have hI25 : scn tx tn_ i k (p + 1, 1) = (q, 1) ∧ q = p + 1 + k ∧ k ≤ ln i ∧ q ≤ 97 := hI
    clear hI
    obtain ⟨hsc, hqk, hkl, hq97⟩ := id hI25
    refine lv_iload_n hx hb dX3_firstMisfit_25 rfl (lv_at hl 3 rfl) ?_
    refine lv_aload_n hx hb dX3_firstMisfit_26 rfl (lv_at hl 2 rfl) ?_
    refine cKI (As := []) (rest := [.int (nI k)]) F (i := i) (c_J0_length_8abf5 l g i (by omega)) kJ0_length_8abf5 rfl gX3_firstMisfit_J0_length_8abf5 rfl rfl ⟨Nat.le_of_ble_eq_true rfl, Nat.le_of_ble_eq_true rfl⟩ hP hD hS [] [0, 1] rfl rfl (by omega) hl.1 rfl rfl (Nat.le_of_ble_eq_true rfl) dX3_firstMisfit_27 ⟨Nat.le_of_ble_eq_true rfl, Nat.le_of_ble_eq_true rfl⟩ (fun rz w1 H locs hpo hP hD hS => ?_)
    obtain ⟨rfl, rfl⟩ := hpo
    obtain ⟨hP, hD⟩ := nx (ws' := [(t0, .inr (3, [.ref t1, .int (nI tn_)])), (t1, .inl (eI g, 96, .inl (fun j => nI (tx j))))]) hP hD [0, 1] (ndB_ok _ rfl) rfl
    refine xge (tgt := 60) hx hb dX3_firstMisfit_30 (by decide) (by omega) (by omega) (fun c30 => ?_) (fun c30 => ?_)
    · skip
      refine lv_iload_n hx hb dX3_firstMisfit_60 rfl (lv_at hl 1 rfl) ?_
      refine lv_aload_n hx hb dX3_firstMisfit_61 rfl (lv_at hl 0 rfl) ?_
      refine xget F hP inX3_firstMisfit_X3 0 rfl rfl 1 (by decide) lkX3_firstMisfit_1 rfl dX3_firstMisfit_62 ?_
      refine xlt (tgt := 2) hx hb dX3_firstMisfit_65 (by decide) (by omega) (by omega) (fun c65 => ?_) (fun c65 => ?_)
      · skip
        exact ih2 (q, (d - 1)) (show ms tx tn_ 100 0 = ms tx tn_ ((d - 1) + 1) q ∧ tn_ ≤ q + (d - 1) ∧ q ≤ 96 from (⟨by rw [show k = ln i by omega] at hsc; have e := hst.2 (by omega); rw [hsc] at e; rw [hms, show d = (d - 1) + 1 by omega]; have e2 := ms_go (tx := tx) (tn := tn_) (d := d - 1 + 1) (p := p) (by rw [e]) (by rw [e]; show q < tn_; omega); rw [e] at e2; exact e2, by omega, by omega⟩)) (show (d - 1) < d from (by omega)) _ _ _ hP hD hS (lv_sub hl [0, 1] rfl)
      · skip
        refine lv_bipush (v := (-9)) hx hb dX3_firstMisfit_68 (by decide) ?_
        exact rtI F hP hD hS dX3_firstMisfit_70 (⟨by rw [show k = ln i by omega] at hsc; rw [hms, ms_end (by rw [hst.2 (by omega), hsc]; exact fun z => by have := z.2; simp only at this; omega), hst.2 (by omega), hsc]; rfl, rfl⟩)
    · skip
      refine lv_aload_n hx hb dX3_firstMisfit_33 rfl (lv_at hl 2 rfl) ?_
      refine lv_iload_n hx hb dX3_firstMisfit_34 rfl (lv_at hl 3 rfl) ?_
      refine cKI (As := [.int (nI k)]) (rest := []) F (i := i) (c_J0_charAt_5068e l g i k (by omega) (by omega)) kJ0_charAt_5068e rfl gX3_firstMisfit_J0_charAt_5068e rfl rfl ⟨Nat.le_of_ble_eq_true rfl, Nat.le_of_ble_eq_true rfl⟩ hP hD hS [] [0, 1] rfl rfl (by omega) hl.1 rfl rfl (Nat.le_of_ble_eq_true rfl) dX3_firstMisfit_35 ⟨Nat.le_of_ble_eq_true rfl, Nat.le_of_ble_eq_true rfl⟩ (fun rz w1 H locs hpo hP hD hS => ?_)
      obtain ⟨rfl, rfl⟩ := hpo
      obtain ⟨hP, hD⟩ := nx (ws' := [(t0, .inr (3, [.ref t1, .int (nI tn_)])), (t1, .inl (eI g, 96, .inl (fun j => nI (tx j))))]) hP hD [0, 1] (ndB_ok _ rfl) rfl
      refine lv_aload_n hx hb dX3_firstMisfit_38 rfl (lv_at hl 0 rfl) ?_
      refine lv_iload_n hx hb dX3_firstMisfit_39 rfl (lv_at hl 1 rfl) ?_
      refine cVI (As := [.int (nI q)]) (rest := [.int (nI (fb i k))]) F (c_X3_letterAt l g t0 t1 tn_ tx q (htn) (htx) (by omega)) kX3_letterAt rfl gX3_firstMisfit_X3_letterAt rfl rfl ⟨Nat.le_of_ble_eq_true rfl, Nat.le_of_ble_eq_true rfl⟩ hP hD hS [0, 1] [] rfl rfl 0 rfl rfl hl.1 rfl rfl (Nat.le_of_ble_eq_true rfl) dX3_firstMisfit_40 ⟨Nat.le_of_ble_eq_true rfl, Nat.le_of_ble_eq_true rfl⟩ (fun rz w1 H locs hpo hP hD hS => ?_)
      obtain ⟨rfl, rfl⟩ := hpo
      obtain ⟨hP, hD⟩ := nx (ws' := [(t0, .inr (3, [.ref t1, .int (nI tn_)])), (t1, .inl (eI g, 96, .inl (fun j => nI (tx j))))]) hP hD [0, 1] (ndB_ok _ rfl) rfl
      rcases Nat.lt_or_ge q tn_ with hq | hq
      · refine sti (show ltI tx tn_ q = (nI (tx q)) from if_pos hq) ?_
        refine cSI (As := [.int (nI (fb i k)), .int (nI (tx q))]) (rest := []) F (c_X3_fits l g (fb i k) (tx q) (by have := fb_b i (by omega) k (by omega); omega) (htx _)) kX3_fits gX3_firstMisfit_X3_fits rfl rfl ⟨Nat.le_of_ble_eq_true rfl, Nat.le_of_ble_eq_true rfl⟩ hP hD hS [] [0, 1] rfl rfl hl.1 rfl rfl (Nat.le_of_ble_eq_true rfl) dX3_firstMisfit_43 ⟨Nat.le_of_ble_eq_true rfl, Nat.le_of_ble_eq_true rfl⟩ (fun rz w1 H locs hpo hP hD hS => ?_)
        obtain ⟨rfl, rfl⟩ := hpo
        obtain ⟨hP, hD⟩ := nx (ws' := [(t0, .inr (3, [.ref t1, .int (nI tn_)])), (t1, .inl (eI g, 96, .inl (fun j => nI (tx j))))]) hP hD [0, 1] (ndB_ok _ rfl) rfl
        refine bqne (tgt := 51) hx hb dX3_firstMisfit_46 (by decide) (fun c46 => ?_) (fun c46 => ?_)
        · skip
          refine lv_iinc (v := (nI (q + 1))) (lv' := [(1, .int (nI (q + 1))), (0, .ref t0), (2, .ref (eK g i)), (3, .int (nI k))]) hx hb dX3_firstMisfit_51 hl (k := 1) rfl (iincP q 1) (by decide) rfl (fun ls hl => ?_)
          refine lv_iinc (v := (nI (k + 1))) (lv' := [(3, .int (nI (k + 1))), (1, .int (nI (q + 1))), (0, .ref t0), (2, .ref (eK g i))]) hx hb dX3_firstMisfit_54 hl (k := 3) rfl (iincP k 1) (by decide) rfl (fun ls hl => ?_)
          refine lv_goto (tgt := 25) hx hb dX3_firstMisfit_57 (by decide) ?_
          exact ih25 (k + 1, q + 1) (show scn tx tn_ i (k + 1) (p + 1, 1) = ((q + 1), 1) ∧ (q + 1) = p + 1 + (k + 1) ∧ (k + 1) ≤ ln i ∧ (q + 1) ≤ 97 from (⟨scn_yes hsc hq c46, by omega, by omega, by omega⟩)) (show ln i - (k + 1) < ln i - k from (by omega)) _ _ _ hP hD hS (lv_sub hl [2, 1, 3, 0] rfl)
        · skip
          refine lv_iload_n hx hb dX3_firstMisfit_49 rfl (lv_at hl 1 rfl) ?_
          exact rtI F hP hD hS dX3_firstMisfit_50 (⟨by have hz := scn_no (n := ln i) hsc (by omega) (fun z => c46 z.2); rw [hms, ms_end (by rw [hst.2 (by omega), hz]; exact fun z => absurd (show (0 : Nat) = 1 from z.1) (by decide)), hst.2 (by omega), hz]; rfl, rfl⟩)
      · refine sti (show ltI tx tn_ q = (-1) from if_neg (by omega)) ?_
        refine cSI (As := [.int (nI (fb i k)), .int (-1)]) (rest := []) F (m_X3_fits l g (fb i k) (by have := fb_b i (by omega) k (by omega); omega)) kX3_fits gX3_firstMisfit_X3_fits rfl rfl ⟨Nat.le_of_ble_eq_true rfl, Nat.le_of_ble_eq_true rfl⟩ hP hD hS [] [0, 1] rfl rfl hl.1 rfl rfl (Nat.le_of_ble_eq_true rfl) dX3_firstMisfit_43 ⟨Nat.le_of_ble_eq_true rfl, Nat.le_of_ble_eq_true rfl⟩ (fun rz w1 H locs hpo hP hD hS => ?_)
        obtain ⟨rfl, rfl⟩ := hpo
        obtain ⟨hP, hD⟩ := nx (ws' := [(t0, .inr (3, [.ref t1, .int (nI tn_)])), (t1, .inl (eI g, 96, .inl (fun j => nI (tx j))))]) hP hD [0, 1] (ndB_ok _ rfl) rfl
        refine zne (tgt := 51) hx hb dX3_firstMisfit_46 (by decide) (by omega) (fun c => absurd c (by decide)) (fun c => ?_)
        refine lv_iload_n hx hb dX3_firstMisfit_49 rfl (lv_at hl 1 rfl) ?_
        exact rtI F hP hD hS dX3_firstMisfit_50 (⟨by have hz := scn_no (n := ln i) hsc (by omega) (fun z => by omega); rw [hms, ms_end (by rw [hst.2 (by omega), hz]; exact fun z => absurd (show (0 : Nat) = 1 from z.1) (by decide)), hst.2 (by omega), hz]; rfl, rfl⟩)
  · skip
    refine lv_iload_n hx hb dX3_firstMisfit_18 rfl (lv_at hl 2 rfl) ?_
    exact rtI F hP hD hS dX3_firstMisfit_19 (⟨by rw [hms, ms_end (by rw [hst.1 (by omega)]; exact fun z => absurd (show (0 : Nat) = 1 from z.1) (by decide)), hst.1 (by omega)]; rfl, rfl⟩)
