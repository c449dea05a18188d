theorem lkX2_toldOf_4 : Cond.initialized RX4 ∈ wsX2_toldOf := List.mem_of_getElem? (i := 4) rfl
theorem lkX2_toldOf_3 : Cond.static yX4_isSecond ∈ wsX2_toldOf := List.mem_of_getElem? (i := 3) rfl
theorem inX2_toldOf_X2 : ∀ w ∈ u_ws RX2 TX2 5, w ∈ wsX2_toldOf := fun _ h => (List.mem_cons_of_mem _ (List.mem_append_right _ h))
theorem lkX2_toldOf_1 : Cond.fieldLink RX2 11 "StripInFiveSteps$Strips" "told" "[J" ∈ wsX2_toldOf := List.mem_of_getElem? (i := 1) rfl
theorem lkX2_toldOf_2 : Cond.fieldLink RX2 26 "StripInFiveSteps$Strips" "kindAt" "I" ∈ wsX2_toldOf := List.mem_of_getElem? (i := 2) rfl
theorem kX2_toldOf : Cal yX2_toldOf wsX2_toldOf cX2_toldOf 3 (some .long) 2 := ⟨⟨_, rfl⟩, by decide +kernel⟩
set_option maxHeartbeats 4000000 in
set_option maxRecDepth 100000 in
theorem c_X2_toldOf (l : Launch) (g : EE) (a0 : Nat) (a1 : Nat) (a2 : Nat) (a3 : Nat) (a5 : Nat) (T : Nat → Int64) (ka : Nat) (t : Nat → Nat → Nat) (v : Nat) (k : Nat) (hR : Rdy T ka t) (hka : ka ≤ 1107) (hv1 : 1 ≤ v) (hv : v ≤ 40) (hk9 : k < 9) : CL l yX2_toldOf wsX2_toldOf ({ frames := 1, cells := 0, slots := 0, locals := 20 }) g [.ref a0, .int (nI v), .int (nI k)] [(a0, .inr (2, [.ref a1, .ref a2, .ref a3, .int (nI ka), .ref a5])), (a1, .inl (eJ g, 1476, .inr (.inl T)))] (fun (rz : Int64) (wz : va_W) => rz = (tmk t v k) ∧ wz = [(a0, .inr (2, [.ref a1, .ref a2, .ref a3, .int (nI ka), .ref a5])), (a1, .inl (eJ g, 1476, .inr (.inl T)))]) 0 0 := by
  refine ctL (cc := cX2_toldOf) (maxL := 3) (ret := (some .long)) (by decide) rfl (Nat.le_of_ble_eq_true rfl) ?_
  intro p_ e_ s_ m_ bl_ mt_ cd_ A ls F hnm hP hD hS hl
  obtain ⟨hx, hb, hml, hown, hts, hK, hX, hA, hrt_, hlocks⟩ := id F
  have hl : lv_has ls 3 [(0, .ref a0), (1, .int (nI v)), (2, .int (nI k))] := hl
  refine lv_iload_n hx hb dX2_toldOf_0 rfl (lv_at hl 1 rfl) ?_
  refine cTI (As := [.int (nI v)]) (rest := []) F (n_X4_isSecond l g v (by omega)) kX4_isSecond ggX2_toldOf_X4_isSecond 8 rfl lkX2_toldOf_4 lkX2_toldOf_3 rfl rfl ⟨Nat.le_of_ble_eq_true rfl, Nat.le_of_ble_eq_true rfl⟩ hP hD hS [] [0, 1] rfl rfl hl.1 rfl rfl (Nat.le_of_ble_eq_true rfl) dX2_toldOf_1 ⟨Nat.le_of_ble_eq_true rfl, Nat.le_of_ble_eq_true rfl⟩ (fun rz w1 H locs hpo hP hD hS => ?_)
  obtain ⟨rfl, rfl⟩ := hpo
  obtain ⟨hP, hD⟩ := nx (ws' := [(a0, .inr (2, [.ref a1, .ref a2, .ref a3, .int (nI ka), .ref a5])), (a1, .inl (eJ g, 1476, .inr (.inl T)))]) hP hD [0, 1] (ndB_ok _ rfl) rfl
  refine bqeq (tgt := 36) hx hb dX2_toldOf_4 (by decide) (fun c4 => ?_) (fun c4 => ?_)
  · skip
    refine lv_lconst (v := lN 0) hx hb dX2_toldOf_36 rfl ?_
    exact rtL F hP hD hS dX2_toldOf_37 (by first | (exfalso; omega) | exact ⟨hR v k hv1 hv hk9, rfl⟩)
  · skip
    refine lv_iload_n hx hb dX2_toldOf_7 rfl (lv_at hl 2 rfl) ?_
    refine zlt (tgt := 36) hx hb dX2_toldOf_8 (by decide) (by omega) ?_
    refine lv_iload_n hx hb dX2_toldOf_11 rfl (lv_at hl 2 rfl) ?_
    refine lv_bipush (v := (nI 9)) hx hb dX2_toldOf_12 (by decide) ?_
    refine xge (tgt := 36) hx hb dX2_toldOf_14 (by decide) (by omega) (by omega) (fun c14 => ?_) (fun c14 => ?_)
    · skip
      refine lv_lconst (v := lN 0) hx hb dX2_toldOf_36 rfl ?_
      exact rtL F hP hD hS dX2_toldOf_37 (by first | (exfalso; omega) | exact ⟨hR v k hv1 hv hk9, rfl⟩)
    · skip
      refine lv_aload_n hx hb dX2_toldOf_17 rfl (lv_at hl 0 rfl) ?_
      refine xget F hP inX2_toldOf_X2 0 rfl rfl 0 (by decide) lkX2_toldOf_1 rfl dX2_toldOf_18 ?_
      refine lv_aload_n hx hb dX2_toldOf_21 rfl (lv_at hl 0 rfl) ?_
      refine xget F hP inX2_toldOf_X2 0 rfl rfl 3 (by decide) lkX2_toldOf_2 rfl dX2_toldOf_22 ?_
      refine lv_iload_n hx hb dX2_toldOf_25 rfl (lv_at hl 1 rfl) ?_
      refine lv_bipush (v := (nI 9)) hx hb dX2_toldOf_26 (by decide) ?_
      refine xmul hx hb dX2_toldOf_28 ?_
      refine xadd hx hb dX2_toldOf_29 ?_
      refine lv_iload_n hx hb dX2_toldOf_30 rfl (lv_at hl 2 rfl) ?_
      refine xadd hx hb dX2_toldOf_31 ?_
      refine xlald F hP 1 (v := (T ((ka + (v * 9)) + k))) rfl (by omega) (by omega) rfl dX2_toldOf_32 ?_
      refine lv_goto (tgt := 37) hx hb dX2_toldOf_33 (by decide) ?_
      exact rtL F hP hD hS dX2_toldOf_37 (by first | (exfalso; omega) | exact ⟨hR v k hv1 hv hk9, rfl⟩)

theorem kX2_partsOf : Cal yX2_partsOf wsX2_partsOf cX2_partsOf 6 (some .int) 2 := ⟨⟨_, rfl⟩, by decide +kernel⟩
set_option maxHeartbeats 4000000 in
set_option maxRecDepth 100000 in
theorem c_X2_partsOf (l : Launch) (g : EE) (a0 : Nat) (a1 : Nat) (a2 : Nat) (a3 : Nat) (a5 : Nat) (T : Nat → Int64) (ka : Nat) (t : Nat → Nat → Nat) (v : Nat) (x : Int64) (hR : Rdy T ka t) (hka : ka ≤ 1107) (hv1 : 1 ≤ v) (hv : v ≤ 40) (hin : inS x) : CI l yX2_partsOf wsX2_partsOf ({ frames := 2, cells := 0, slots := 0, locals := 42 }) g [.ref a0, .int (nI v), .long x] [(a0, .inr (2, [.ref a1, .ref a2, .ref a3, .int (nI ka), .ref a5])), (a1, .inl (eJ g, 1476, .inr (.inl T)))] (fun (rz : Int32) (wz : va_W) => rz = (nI (paS t (bitL x) v)) ∧ wz = [(a0, .inr (2, [.ref a1, .ref a2, .ref a3, .int (nI ka), .ref a5])), (a1, .inl (eJ g, 1476, .inr (.inl T)))]) 0 0 := by
  refine ctI (cc := cX2_partsOf) (maxL := 6) (ret := (some .int)) (by decide) rfl (Nat.le_of_ble_eq_true rfl) ?_
  intro p_ e_ s_ m_ bl_ mt_ cd_ A ls F hnm hP hD hS hl
  obtain ⟨hx, hb, hml, hown, hts, hK, hX, hA, hrt_, hlocks⟩ := id F
  have hl : lv_has ls 6 [(0, .ref a0), (1, .int (nI v)), (2, .long x)] := hl
  refine lv_iconst (v := (nI 0)) hx hb dX2_partsOf_0 (by decide) ?_
  refine lv_istore (lv' := [(4, .int (nI 0)), (0, .ref a0), (1, .int (nI v)), (2, .long x)]) hx hb dX2_partsOf_1 hl (by decide) rfl (fun ls hl => ?_)
  refine lv_iconst (v := (nI 0)) hx hb dX2_partsOf_3 (by decide) ?_
  refine lv_istore (lv' := [(5, .int (nI 0)), (4, .int (nI 0)), (0, .ref a0), (1, .int (nI v)), (2, .long x)]) hx hb dX2_partsOf_4 hl (by decide) rfl (fun ls hl => ?_)
  refine xlo (σ := Nat × Nat) 6 (fun xz_ => (fun (k : Nat) (a : Nat) => [(0, .ref a0), (1, .int (nI v)), (2, .long x), (4, .int (nI a)), (5, .int (nI k))]) xz_.1 xz_.2) (fun xz_ => (fun (k : Nat) (a : Nat) => [(a0, .inr (2, [.ref a1, .ref a2, .ref a3, .int (nI ka), .ref a5])), (a1, .inl (eJ g, 1476, .inr (.inl T)))]) xz_.1 xz_.2) (fun xz_ => (fun (k : Nat) (a : Nat) => a = sz (fun z_ => if cnS (prt t (bitL x) v z_) = 0 then 0 else 1) k ∧ k ≤ 9) xz_.1 xz_.2) (fun xz_ => (fun (k : Nat) (a : Nat) => 9 - k) xz_.1 xz_.2) (fun xz_ hI ih6 H locs ls hP hD hS hl => ?_) (0, 0) (show 0 = sz (fun z_ => if cnS (prt t (bitL x) v z_) = 0 then 0 else 1) 0 ∧ 0 ≤ 9 from (⟨rfl, by omega⟩)) hP hD hS (lv_sub hl [2, 3, 4, 1, 0] rfl)
  obtain ⟨k, a⟩ := xz_
  have hP : va_P (eD g) vwCl [(a0, .inr (2, [.ref a1, .ref a2, .ref a3, .int (nI ka), .ref a5])), (a1, .inl (eJ g, 1476, .inr (.inl T)))] H := hP
  have hD : va_D A [(a0, .inr (2, [.ref a1, .ref a2, .ref a3, .int (nI ka), .ref a5])), (a1, .inl (eJ g, 1476, .inr (.inl T)))] := hD
  have hl : lv_has ls 6 [(0, .ref a0), (1, .int (nI v)), (2, .long x), (4, .int (nI a)), (5, .int (nI k))] := hl
  have hI6 : a = sz (fun z_ => if cnS (prt t (bitL x) v z_) = 0 then 0 else 1) k ∧ k ≤ 9 := hI
  clear hI
  obtain ⟨ha, hk⟩ := id hI6
  refine lv_iload hx hb dX2_partsOf_6 (lv_at hl 4 rfl) ?_
  refine lv_bipush (v := (nI 9)) hx hb dX2_partsOf_8 (by decide) ?_
  refine xge (tgt := 36) hx hb dX2_partsOf_10 (by decide) (by omega) (by omega) (fun c10 => ?_) (fun c10 => ?_)
  · skip
    refine lv_iload hx hb dX2_partsOf_36 (lv_at hl 3 rfl) ?_
    exact rtI F hP hD hS dX2_partsOf_38 (⟨by rw [ha, show k = 9 by omega]; rfl, rfl⟩)
  · skip
    refine lv_aload_n hx hb dX2_partsOf_13 rfl (lv_at hl 0 rfl) ?_
    refine lv_iload_n hx hb dX2_partsOf_14 rfl (lv_at hl 1 rfl) ?_
    refine lv_iload hx hb dX2_partsOf_15 (lv_at hl 4 rfl) ?_
    refine cVL (As := [.int (nI v), .int (nI k)]) (rest := []) F (c_X2_toldOf l g a0 a1 a2 a3 a5 T ka t v k (hR) (hka) (hv1) (hv) (by omega)) kX2_toldOf rfl gX2_partsOf_X2_toldOf rfl rfl ⟨Nat.le_of_ble_eq_true rfl, Nat.le_of_ble_eq_true rfl⟩ hP hD hS [0, 1] [] rfl rfl 0 rfl rfl hl.1 rfl rfl (Nat.le_of_ble_eq_true rfl) dX2_partsOf_17 ⟨Nat.le_of_ble_eq_true rfl, Nat.le_of_ble_eq_true rfl⟩ (fun rz w1 H locs hpo hP hD hS => ?_)
    obtain ⟨rfl, rfl⟩ := hpo
    obtain ⟨hP, hD⟩ := nx (ws' := [(a0, .inr (2, [.ref a1, .ref a2, .ref a3, .int (nI ka), .ref a5])), (a1, .inl (eJ g, 1476, .inr (.inl T)))]) hP hD [0, 1] (ndB_ok _ rfl) rfl
    refine lv_lload_n hx hb dX2_partsOf_20 rfl (lv_at hl 2 rfl) ?_
    refine lv_land hx hb dX2_partsOf_21 ?_
    refine lv_lconst (v := lN 0) hx hb dX2_partsOf_22 rfl ?_
    refine jeq (tgt := 30) hx hb dX2_partsOf_23 dX2_partsOf_24 (by decide) (fun c24 => ?_) (fun c24 => ?_)
    · skip
      refine lv_iinc (v := (nI (k + 1))) (lv' := [(5, .int (nI (k + 1))), (0, .ref a0), (1, .int (nI v)), (2, .long x), (4, .int (nI a))]) hx hb dX2_partsOf_30 hl (k := 4) rfl (iincP k 1) (by decide) rfl (fun ls hl => ?_)
      refine lv_goto (tgt := 6) hx hb dX2_partsOf_33 (by decide) ?_
      exact ih6 (k + 1, a) (show a = sz (fun z_ => if cnS (prt t (bitL x) v z_) = 0 then 0 else 1) (k + 1) ∧ (k + 1) ≤ 9 from (⟨by rw [ha]; exact (pa_skip ((part0 hin).mp c24)).symm, by omega⟩)) (show 9 - (k + 1) < 9 - k from (by omega)) _ _ _ hP hD hS (lv_sub hl [1, 2, 3, 4, 0] rfl)
    · skip
      refine lv_iinc (v := (nI (a + 1))) (lv' := [(4, .int (nI (a + 1))), (0, .ref a0), (1, .int (nI v)), (2, .long x), (5, .int (nI k))]) hx hb dX2_partsOf_27 hl (k := 3) rfl (iincP a 1) (by decide) rfl (fun ls hl => ?_)
      refine lv_iinc (v := (nI (k + 1))) (lv' := [(5, .int (nI (k + 1))), (4, .int (nI (a + 1))), (0, .ref a0), (1, .int (nI v)), (2, .long x)]) hx hb dX2_partsOf_30 hl (k := 4) rfl (iincP k 1) (by decide) rfl (fun ls hl => ?_)
      refine lv_goto (tgt := 6) hx hb dX2_partsOf_33 (by decide) ?_
      exact ih6 (k + 1, a + 1) (show (a + 1) = sz (fun z_ => if cnS (prt t (bitL x) v z_) = 0 then 0 else 1) (k + 1) ∧ (k + 1) ≤ 9 from (⟨by rw [ha]; exact (pa_step (fun q => c24 ((part0 hin).mpr q))).symm, by omega⟩)) (show 9 - (k + 1) < 9 - k from (by omega)) _ _ _ hP hD hS (lv_sub hl [2, 3, 4, 1, 0] rfl)

theorem lkX2_worstOf_13 : Cond.initialized RX4 ∈ wsX2_worstOf := List.mem_of_getElem? (i := 13) rfl
theorem lkX2_worstOf_15 : Cond.static yX4_size ∈ wsX2_worstOf := List.mem_of_getElem? (i := 15) rfl
theorem lkX2_worstOf_2 : Cond.static Lib.Math.max.name ∈ wsX2_worstOf := List.mem_of_getElem? (i := 2) rfl
theorem lkX2_worstOf_3 : Cond.initialized "java/lang/Math" ∈ wsX2_worstOf := List.mem_of_getElem? (i := 3) rfl
theorem lkX2_worstOf_4 : Cond.code Lib.Math.max.name Lib.Math.max.code 2 (some .int) ∈ wsX2_worstOf := List.mem_of_getElem? (i := 4) rfl
theorem lkX2_worstOf_1 : Cond.methodLink RX2 67 Lib.Math.max.name ∈ wsX2_worstOf := List.mem_of_getElem? (i := 1) rfl
theorem kX2_worstOf : Cal yX2_worstOf wsX2_worstOf cX2_worstOf 8 (some .int) 2 := ⟨⟨_, rfl⟩, by decide +kernel⟩
set_option maxHeartbeats 4000000 in
set_option maxRecDepth 100000 in
theorem c_X2_worstOf (l : Launch) (g : EE) (a0 : Nat) (a1 : Nat) (a2 : Nat) (a3 : Nat) (a5 : Nat) (T : Nat → Int64) (ka : Nat) (t : Nat → Nat → Nat) (v : Nat) (x : Int64) (hR : Rdy T ka t) (hka : ka ≤ 1107) (hv1 : 1 ≤ v) (hv : v ≤ 40) (hin : inS x) : CI l yX2_worstOf wsX2_worstOf ({ frames := 2, cells := 0, slots := 0, locals := 42 }) g [.ref a0, .int (nI v), .long x] [(a0, .inr (2, [.ref a1, .ref a2, .ref a3, .int (nI ka), .ref a5])), (a1, .inl (eJ g, 1476, .inr (.inl T)))] (fun (rz : Int32) (wz : va_W) => rz = (nI (woS t (bitL x) v)) ∧ wz = [(a0, .inr (2, [.ref a1, .ref a2, .ref a3, .int (nI ka), .ref a5])), (a1, .inl (eJ g, 1476, .inr (.inl T)))]) 0 0 := by
  refine ctI (cc := cX2_worstOf) (maxL := 8) (ret := (some .int)) (by decide) rfl (Nat.le_of_ble_eq_true rfl) ?_
  intro p_ e_ s_ m_ bl_ mt_ cd_ A ls F hnm hP hD hS hl
  obtain ⟨hx, hb, hml, hown, hts, hK, hX, hA, hrt_, hlocks⟩ := id F
  have hl : lv_has ls 8 [(0, .ref a0), (1, .int (nI v)), (2, .long x)] := hl
  refine lv_iconst (v := (nI 0)) hx hb dX2_worstOf_0 (by decide) ?_
  refine lv_istore (lv' := [(4, .int (nI 0)), (0, .ref a0), (1, .int (nI v)), (2, .long x)]) hx hb dX2_worstOf_1 hl (by decide) rfl (fun ls hl => ?_)
  refine lv_iconst (v := (nI 0)) hx hb dX2_worstOf_3 (by decide) ?_
  refine lv_istore (lv' := [(5, .int (nI 0)), (4, .int (nI 0)), (0, .ref a0), (1, .int (nI v)), (2, .long x)]) hx hb dX2_worstOf_4 hl (by decide) rfl (fun ls hl => ?_)
  refine xlo (σ := Nat × Nat) 8 (fun xz_ => (fun (k : Nat) (a : Nat) => [(0, .ref a0), (1, .int (nI v)), (2, .long x), (4, .int (nI a)), (5, .int (nI k))]) xz_.1 xz_.2) (fun xz_ => (fun (k : Nat) (a : Nat) => [(a0, .inr (2, [.ref a1, .ref a2, .ref a3, .int (nI ka), .ref a5])), (a1, .inl (eJ g, 1476, .inr (.inl T)))]) xz_.1 xz_.2) (fun xz_ => (fun (k : Nat) (a : Nat) => a = mz (fun z_ => cnS (prt t (bitL x) v z_)) k ∧ k ≤ 9) xz_.1 xz_.2) (fun xz_ => (fun (k : Nat) (a : Nat) => 9 - k) xz_.1 xz_.2) (fun xz_ hI ih6 H locs ls hP hD hS hl => ?_) (0, 0) (show 0 = mz (fun z_ => cnS (prt t (bitL x) v z_)) 0 ∧ 0 ≤ 9 from (⟨rfl, by omega⟩)) hP hD hS (lv_sub hl [2, 3, 4, 1, 0] rfl)
  obtain ⟨k, a⟩ := xz_
  have hP : va_P (eD g) vwCl [(a0, .inr (2, [.ref a1, .ref a2, .ref a3, .int (nI ka), .ref a5])), (a1, .inl (eJ g, 1476, .inr (.inl T)))] H := hP
  have hD : va_D A [(a0, .inr (2, [.ref a1, .ref a2, .ref a3, .int (nI ka), .ref a5])), (a1, .inl (eJ g, 1476, .inr (.inl T)))] := hD
  have hl : lv_has ls 8 [(0, .ref a0), (1, .int (nI v)), (2, .long x), (4, .int (nI a)), (5, .int (nI k))] := hl
  have hI6 : a = mz (fun z_ => cnS (prt t (bitL x) v z_)) k ∧ k ≤ 9 := hI
  clear hI
  obtain ⟨ha, hk⟩ := id hI6
  have hab : a ≤ 40 := by rw [ha]; exact mz_le k (fun _ _ => cnS_le _)
  refine lv_iload hx hb dX2_worstOf_6 (lv_at hl 4 rfl) ?_
  refine lv_bipush (v := (nI 9)) hx hb dX2_worstOf_8 (by decide) ?_
  refine xge (tgt := 49) hx hb dX2_worstOf_10 (by decide) (by omega) (by omega) (fun c10 => ?_) (fun c10 => ?_)
  · skip
    refine lv_iload hx hb dX2_worstOf_49 (lv_at hl 3 rfl) ?_
    exact rtI F hP hD hS dX2_worstOf_51 (⟨by rw [ha, show k = 9 by omega]; rfl, rfl⟩)
  · skip
    refine lv_aload_n hx hb dX2_worstOf_13 rfl (lv_at hl 0 rfl) ?_
    refine lv_iload_n hx hb dX2_worstOf_14 rfl (lv_at hl 1 rfl) ?_
    refine lv_iload hx hb dX2_worstOf_15 (lv_at hl 4 rfl) ?_
    refine cVL (As := [.int (nI v), .int (nI k)]) (rest := []) F (c_X2_toldOf l g a0 a1 a2 a3 a5 T ka t v k (hR) (hka) (hv1) (hv) (by omega)) kX2_toldOf rfl gX2_worstOf_X2_toldOf rfl rfl ⟨Nat.le_of_ble_eq_true rfl, Nat.le_of_ble_eq_true rfl⟩ hP hD hS [0, 1] [] rfl rfl 0 rfl rfl hl.1 rfl rfl (Nat.le_of_ble_eq_true rfl) dX2_worstOf_17 ⟨Nat.le_of_ble_eq_true rfl, Nat.le_of_ble_eq_true rfl⟩ (fun rz w1 H locs hpo hP hD hS => ?_)
    obtain ⟨rfl, rfl⟩ := hpo
    obtain ⟨hP, hD⟩ := nx (ws' := [(a0, .inr (2, [.ref a1, .ref a2, .ref a3, .int (nI ka), .ref a5])), (a1, .inl (eJ g, 1476, .inr (.inl T)))]) hP hD [0, 1] (ndB_ok _ rfl) rfl
    refine lv_lload_n hx hb dX2_worstOf_20 rfl (lv_at hl 2 rfl) ?_
    refine lv_land hx hb dX2_worstOf_21 ?_
    refine lv_lstore (lv' := [(6, .long ((tmk t v k) &&& x)), (0, .ref a0), (1, .int (nI v)), (2, .long x), (4, .int (nI a)), (5, .int (nI k))]) hx hb dX2_worstOf_22 hl (by decide) rfl (fun ls hl => ?_)
    refine lv_lload hx hb dX2_worstOf_24 (lv_at hl 0 rfl) ?_
    refine lv_lconst (v := lN 0) hx hb dX2_worstOf_26 rfl ?_
    refine jeq (tgt := 43) hx hb dX2_worstOf_27 dX2_worstOf_28 (by decide) (fun c28 => ?_) (fun c28 => ?_)
    · skip
      refine lv_iinc (v := (nI (k + 1))) (lv' := [(5, .int (nI (k + 1))), (6, .long ((tmk t v k) &&& x)), (0, .ref a0), (1, .int (nI v)), (2, .long x), (4, .int (nI a))]) hx hb dX2_worstOf_43 hl (k := 5) rfl (iincP k 1) (by decide) rfl (fun ls hl => ?_)
      refine lv_goto (tgt := 6) hx hb dX2_worstOf_46 (by decide) ?_
      exact ih6 (k + 1, a) (show a = mz (fun z_ => cnS (prt t (bitL x) v z_)) (k + 1) ∧ (k + 1) ≤ 9 from (⟨by rw [ha]; exact (wo_skip ((part0 hin).mp c28)).symm, by omega⟩)) (show 9 - (k + 1) < 9 - k from (by omega)) _ _ _ hP hD hS (lv_sub hl [2, 3, 4, 5, 0] rfl)
    · skip
      refine lv_iload hx hb dX2_worstOf_31 (lv_at hl 4 rfl) ?_
      refine lv_lload hx hb dX2_worstOf_33 (lv_at hl 0 rfl) ?_
      refine cTI (As := [.long ((tmk t v k) &&& x)]) (rest := [.int (nI a)]) F (c_X4_size l g ((tmk t v k) &&& x) (inS_and hin)) kX4_size ggX2_worstOf_X4_size 9 rfl lkX2_worstOf_13 lkX2_worstOf_15 rfl rfl ⟨Nat.le_of_ble_eq_true rfl, Nat.le_of_ble_eq_true rfl⟩ hP hD hS [] [0, 1] rfl rfl hl.1 rfl rfl (Nat.le_of_ble_eq_true rfl) dX2_worstOf_35 ⟨Nat.le_of_ble_eq_true rfl, Nat.le_of_ble_eq_true rfl⟩ (fun rz w1 H locs hpo hP hD hS => ?_)
      obtain ⟨rfl, rfl⟩ := hpo
      obtain ⟨hP, hD⟩ := nx (ws' := [(a0, .inr (2, [.ref a1, .ref a2, .ref a3, .int (nI ka), .ref a5])), (a1, .inl (eJ g, 1476, .inr (.inl T)))]) hP hD [0, 1] (ndB_ok _ rfl) rfl
      have hcb := cnS_le (bitL (tmk t v k &&& x))
      refine xmax F hl.1 lkX2_worstOf_1 lkX2_worstOf_2 lkX2_worstOf_3 lkX2_worstOf_4 (Nat.le_of_ble_eq_true rfl) (Nat.le_of_ble_eq_true rfl) ⟨Nat.le_of_ble_eq_true rfl, Nat.le_of_ble_eq_true rfl⟩ (by omega) (by omega) dX2_worstOf_38 ?_
      refine lv_istore (lv' := [(4, .int (nI (max a (cnS (bitL ((tmk t v k) &&& x)))))), (6, .long ((tmk t v k) &&& x)), (0, .ref a0), (1, .int (nI v)), (2, .long x), (5, .int (nI k))]) hx hb dX2_worstOf_41 hl (by decide) rfl (fun ls hl => ?_)
      refine lv_iinc (v := (nI (k + 1))) (lv' := [(5, .int (nI (k + 1))), (4, .int (nI (max a (cnS (bitL ((tmk t v k) &&& x)))))), (6, .long ((tmk t v k) &&& x)), (0, .ref a0), (1, .int (nI v)), (2, .long x)]) hx hb dX2_worstOf_43 hl (k := 5) rfl (iincP k 1) (by decide) rfl (fun ls hl => ?_)
      refine lv_goto (tgt := 6) hx hb dX2_worstOf_46 (by decide) ?_
      exact ih6 (k + 1, max a (cnS (bitL ((tmk t v k) &&& x)))) (show (max a (cnS (bitL ((tmk t v k) &&& x)))) = mz (fun z_ => cnS (prt t (bitL x) v z_)) (k + 1) ∧ (k + 1) ≤ 9 from (⟨by rw [ha, bitL_prt hin]; exact wo_step.symm, by omega⟩)) (show 9 - (k + 1) < 9 - k from (by omega)) _ _ _ hP hD hS (lv_sub hl [3, 4, 5, 1, 0] rfl)

theorem lkX2_meanOf_9 : Cond.initialized RX4 ∈ wsX2_meanOf := List.mem_of_getElem? (i := 9) rfl
theorem lkX2_meanOf_19 : Cond.static yX4_size ∈ wsX2_meanOf := List.mem_of_getElem? (i := 19) rfl
theorem kX2_meanOf : Cal yX2_meanOf wsX2_meanOf cX2_meanOf 10 (some .long) 3 := ⟨⟨_, rfl⟩, by decide +kernel⟩
set_option maxHeartbeats 4000000 in
set_option maxRecDepth 100000 in
theorem c_X2_meanOf (l : Launch) (g : EE) (a0 : Nat) (a1 : Nat) (a2 : Nat) (a3 : Nat) (a5 : Nat) (T : Nat → Int64) (ka : Nat) (h0 : Nat) (h1 : Nat) (h2 : Nat) (W : Nat → Nat) (B : Nat → Nat) (sk : Nat) (ek : Nat) (tr : Nat) (t : Nat → Nat → Nat) (v : Nat) (x : Int64) (hR : Rdy T ka t) (hka : ka ≤ 1107) (hv1 : 1 ≤ v) (hv : v ≤ 40) (hin : inS x) (hW : ∀ j, W j ≤ 9) : CL l yX2_meanOf wsX2_meanOf ({ frames := 2, cells := 0, slots := 0, locals := 46 }) g [.ref a0, .int (nI v), .ref h0, .long x] [(a0, .inr (2, [.ref a1, .ref a2, .ref a3, .int (nI ka), .ref a5])), (a1, .inl (eJ g, 1476, .inr (.inl T))), (h0, .inr (0, [.ref h1, .ref h2, .int (nI sk), .int (nI ek), .int (nI tr)])), (h1, .inl (eI g, 41, .inl (fun j => nI (W j)))), (h2, .inl (eI g, 5, .inl (fun j => nI (B j))))] (fun (rz : Int64) (wz : va_W) => rz = (lN (meS t W (bitL x) v)) ∧ wz = [(a0, .inr (2, [.ref a1, .ref a2, .ref a3, .int (nI ka), .ref a5])), (a1, .inl (eJ g, 1476, .inr (.inl T))), (h0, .inr (0, [.ref h1, .ref h2, .int (nI sk), .int (nI ek), .int (nI tr)])), (h1, .inl (eI g, 41, .inl (fun j => nI (W j)))), (h2, .inl (eI g, 5, .inl (fun j => nI (B j))))]) 0 0 := by
  refine ctL (cc := cX2_meanOf) (maxL := 10) (ret := (some .long)) (by decide) rfl (Nat.le_of_ble_eq_true rfl) ?_
  intro p_ e_ s_ m_ bl_ mt_ cd_ A ls F hnm hP hD hS hl
  obtain ⟨hx, hb, hml, hown, hts, hK, hX, hA, hrt_, hlocks⟩ := id F
  have hl : lv_has ls 10 [(0, .ref a0), (1, .int (nI v)), (2, .ref h0), (3, .long x)] := hl
  refine lv_lconst (v := lN 0) hx hb dX2_meanOf_0 rfl ?_
  refine lv_lstore (lv' := [(5, .long (lN 0)), (0, .ref a0), (1, .int (nI v)), (2, .ref h0), (3, .long x)]) hx hb dX2_meanOf_1 hl (by decide) rfl (fun ls hl => ?_)
  refine lv_iconst (v := (nI 0)) hx hb dX2_meanOf_3 (by decide) ?_
  refine lv_istore (lv' := [(7, .int (nI 0)), (5, .long (lN 0)), (0, .ref a0), (1, .int (nI v)), (2, .ref h0), (3, .long x)]) hx hb dX2_meanOf_4 hl (by decide) rfl (fun ls hl => ?_)
  refine xlo (σ := Nat × Nat) 10 (fun xz_ => (fun (k : Nat) (a : Nat) => [(0, .ref a0), (1, .int (nI v)), (2, .ref h0), (3, .long x), (5, .long (lN a)), (7, .int (nI k))]) xz_.1 xz_.2) (fun xz_ => (fun (k : Nat) (a : Nat) => [(a0, .inr (2, [.ref a1, .ref a2, .ref a3, .int (nI ka), .ref a5])), (a1, .inl (eJ g, 1476, .inr (.inl T))), (h0, .inr (0, [.ref h1, .ref h2, .int (nI sk), .int (nI ek), .int (nI tr)])), (h1, .inl (eI g, 41, .inl (fun j => nI (W j)))), (h2, .inl (eI g, 5, .inl (fun j => nI (B j))))]) xz_.1 xz_.2) (fun xz_ => (fun (k : Nat) (a : Nat) => a = sz (fun z_ => wtS W (prt t (bitL x) v z_) * cnS (prt t (bitL x) v z_)) k ∧ k ≤ 9) xz_.1 xz_.2) (fun xz_ => (fun (k : Nat) (a : Nat) => 9 - k) xz_.1 xz_.2) (fun xz_ hI ih6 H locs ls hP hD hS hl => ?_) (0, 0) (show 0 = sz (fun z_ => wtS W (prt t (bitL x) v z_) * cnS (prt t (bitL x) v z_)) 0 ∧ 0 ≤ 9 from (⟨rfl, by omega⟩)) hP hD hS (lv_sub hl [2, 3, 4, 5, 1, 0] rfl)
  obtain ⟨k, a⟩ := xz_
  have hP : va_P (eD g) vwCl [(a0, .inr (2, [.ref a1, .ref a2, .ref a3, .int (nI ka), .ref a5])), (a1, .inl (eJ g, 1476, .inr (.inl T))), (h0, .inr (0, [.ref h1, .ref h2, .int (nI sk), .int (nI ek), .int (nI tr)])), (h1, .inl (eI g, 41, .inl (fun j => nI (W j)))), (h2, .inl (eI g, 5, .inl (fun j => nI (B j))))] H := hP
  have hD : va_D A [(a0, .inr (2, [.ref a1, .ref a2, .ref a3, .int (nI ka), .ref a5])), (a1, .inl (eJ g, 1476, .inr (.inl T))), (h0, .inr (0, [.ref h1, .ref h2, .int (nI sk), .int (nI ek), .int (nI tr)])), (h1, .inl (eI g, 41, .inl (fun j => nI (W j)))), (h2, .inl (eI g, 5, .inl (fun j => nI (B j))))] := hD
  have hl : lv_has ls 10 [(0, .ref a0), (1, .int (nI v)), (2, .ref h0), (3, .long x), (5, .long (lN a)), (7, .int (nI k))] := hl
  have hI6 : a = sz (fun z_ => wtS W (prt t (bitL x) v z_) * cnS (prt t (bitL x) v z_)) k ∧ k ≤ 9 := hI
  clear hI
  obtain ⟨ha, hk⟩ := id hI6
  refine lv_iload hx hb dX2_meanOf_6 (lv_at hl 5 rfl) ?_
  refine lv_bipush (v := (nI 9)) hx hb dX2_meanOf_8 (by decide) ?_
  refine xge (tgt := 56) hx hb dX2_meanOf_10 (by decide) (by omega) (by omega) (fun c10 => ?_) (fun c10 => ?_)
  · skip
    refine lv_lload hx hb dX2_meanOf_56 (lv_at hl 4 rfl) ?_
    exact rtL F hP hD hS dX2_meanOf_58 (⟨by rw [ha, show k = 9 by omega]; rfl, rfl⟩)
  · skip
    refine lv_aload_n hx hb dX2_meanOf_13 rfl (lv_at hl 0 rfl) ?_
    refine lv_iload_n hx hb dX2_meanOf_14 rfl (lv_at hl 1 rfl) ?_
    refine lv_iload hx hb dX2_meanOf_15 (lv_at hl 5 rfl) ?_
    refine cVL (As := [.int (nI v), .int (nI k)]) (rest := []) F (c_X2_toldOf l g a0 a1 a2 a3 a5 T ka t v k (hR) (hka) (hv1) (hv) (by omega)) kX2_toldOf rfl gX2_meanOf_X2_toldOf rfl rfl ⟨Nat.le_of_ble_eq_true rfl, Nat.le_of_ble_eq_true rfl⟩ hP hD hS [0, 1] [2, 3, 4] rfl rfl 0 rfl rfl hl.1 rfl rfl (Nat.le_of_ble_eq_true rfl) dX2_meanOf_17 ⟨Nat.le_of_ble_eq_true rfl, Nat.le_of_ble_eq_true rfl⟩ (fun rz w1 H locs hpo hP hD hS => ?_)
    obtain ⟨rfl, rfl⟩ := hpo
    obtain ⟨hP, hD⟩ := nx (ws' := [(a0, .inr (2, [.ref a1, .ref a2, .ref a3, .int (nI ka), .ref a5])), (a1, .inl (eJ g, 1476, .inr (.inl T))), (h0, .inr (0, [.ref h1, .ref h2, .int (nI sk), .int (nI ek), .int (nI tr)])), (h1, .inl (eI g, 41, .inl (fun j => nI (W j)))), (h2, .inl (eI g, 5, .inl (fun j => nI (B j))))]) hP hD [3, 4, 0, 1, 2] (ndB_ok _ rfl) rfl
    refine lv_lload_n hx hb dX2_meanOf_20 rfl (lv_at hl 3 rfl) ?_
    refine lv_land hx hb dX2_meanOf_21 ?_
    refine lv_lstore (lv' := [(8, .long ((tmk t v k) &&& x)), (0, .ref a0), (1, .int (nI v)), (2, .ref h0), (3, .long x), (5, .long (lN a)), (7, .int (nI k))]) hx hb dX2_meanOf_22 hl (by decide) rfl (fun ls hl => ?_)
    refine lv_lload hx hb dX2_meanOf_24 (lv_at hl 0 rfl) ?_
    refine lv_lconst (v := lN 0) hx hb dX2_meanOf_26 rfl ?_
    refine jeq (tgt := 50) hx hb dX2_meanOf_27 dX2_meanOf_28 (by decide) (fun c28 => ?_) (fun c28 => ?_)
    · skip
      refine lv_iinc (v := (nI (k + 1))) (lv' := [(7, .int (nI (k + 1))), (8, .long ((tmk t v k) &&& x)), (0, .ref a0), (1, .int (nI v)), (2, .ref h0), (3, .long x), (5, .long (lN a))]) hx hb dX2_meanOf_50 hl (k := 6) rfl (iincP k 1) (by decide) rfl (fun ls hl => ?_)
      refine lv_goto (tgt := 6) hx hb dX2_meanOf_53 (by decide) ?_
      exact ih6 (k + 1, a) (show a = sz (fun z_ => wtS W (prt t (bitL x) v z_) * cnS (prt t (bitL x) v z_)) (k + 1) ∧ (k + 1) ≤ 9 from (⟨by rw [ha]; exact (me_skip ((part0 hin).mp c28)).symm, by omega⟩)) (show 9 - (k + 1) < 9 - k from (by omega)) _ _ _ hP hD hS (lv_sub hl [2, 3, 4, 5, 6, 0] rfl)
    · skip
      refine lv_lload hx hb dX2_meanOf_31 (lv_at hl 5 rfl) ?_
      refine lv_aload_n hx hb dX2_meanOf_33 rfl (lv_at hl 3 rfl) ?_
      refine lv_lload hx hb dX2_meanOf_34 (lv_at hl 0 rfl) ?_
      refine cVI (As := [.long ((tmk t v k) &&& x)]) (rest := [.long (lN a)]) F (c_X0_weightOf l g h0 h1 h2 W B sk ek tr ((tmk t v k) &&& x) ) kX0_weightOf rfl gX2_meanOf_X0_weightOf rfl rfl ⟨Nat.le_of_ble_eq_true rfl, Nat.le_of_ble_eq_true rfl⟩ hP hD hS [2, 3, 4] [0, 1] rfl rfl 0 rfl rfl hl.1 rfl rfl (Nat.le_of_ble_eq_true rfl) dX2_meanOf_36 ⟨Nat.le_of_ble_eq_true rfl, Nat.le_of_ble_eq_true rfl⟩ (fun rz w1 H locs hpo hP hD hS => ?_)
      obtain ⟨rfl, rfl⟩ := hpo
      obtain ⟨hP, hD⟩ := nx (ws' := [(a0, .inr (2, [.ref a1, .ref a2, .ref a3, .int (nI ka), .ref a5])), (a1, .inl (eJ g, 1476, .inr (.inl T))), (h0, .inr (0, [.ref h1, .ref h2, .int (nI sk), .int (nI ek), .int (nI tr)])), (h1, .inl (eI g, 41, .inl (fun j => nI (W j)))), (h2, .inl (eI g, 5, .inl (fun j => nI (B j))))]) hP hD [0, 1, 2, 3, 4] (ndB_ok _ rfl) rfl
      refine lv_i2l (v := lN (wtS W (bitL ((tmk t v k) &&& x)))) hx hb dX2_meanOf_39 (nI_l (by have := wtS_b (p := bitL (tmk t v k &&& x)) hW; omega)) ?_
      refine lv_lload hx hb dX2_meanOf_40 (lv_at hl 0 rfl) ?_
      refine cTI (As := [.long ((tmk t v k) &&& x)]) (rest := [.long (lN (wtS W (bitL ((tmk t v k) &&& x)))), .long (lN a)]) F (c_X4_size l g ((tmk t v k) &&& x) (inS_and hin)) kX4_size ggX2_meanOf_X4_size 9 rfl lkX2_meanOf_9 lkX2_meanOf_19 rfl rfl ⟨Nat.le_of_ble_eq_true rfl, Nat.le_of_ble_eq_true rfl⟩ hP hD hS [] [0, 1, 2, 3, 4] rfl rfl hl.1 rfl rfl (Nat.le_of_ble_eq_true rfl) dX2_meanOf_42 ⟨Nat.le_of_ble_eq_true rfl, Nat.le_of_ble_eq_true rfl⟩ (fun rz w1 H locs hpo hP hD hS => ?_)
      obtain ⟨rfl, rfl⟩ := hpo
      obtain ⟨hP, hD⟩ := nx (ws' := [(a0, .inr (2, [.ref a1, .ref a2, .ref a3, .int (nI ka), .ref a5])), (a1, .inl (eJ g, 1476, .inr (.inl T))), (h0, .inr (0, [.ref h1, .ref h2, .int (nI sk), .int (nI ek), .int (nI tr)])), (h1, .inl (eI g, 41, .inl (fun j => nI (W j)))), (h2, .inl (eI g, 5, .inl (fun j => nI (B j))))]) hP hD [0, 1, 2, 3, 4] (ndB_ok _ rfl) rfl
      refine lv_i2l (v := lN (cnS (bitL ((tmk t v k) &&& x)))) hx hb dX2_meanOf_45 (nI_l (by have := cnS_le (bitL (tmk t v k &&& x)); omega)) ?_
      refine xlmul hx hb dX2_meanOf_46 ?_
      refine xladd hx hb dX2_meanOf_47 ?_
      refine lv_lstore (lv' := [(5, .long (lN (a + ((wtS W (bitL ((tmk t v k) &&& x))) * (cnS (bitL ((tmk t v k) &&& x))))))), (8, .long ((tmk t v k) &&& x)), (0, .ref a0), (1, .int (nI v)), (2, .ref h0), (3, .long x), (7, .int (nI k))]) hx hb dX2_meanOf_48 hl (by decide) rfl (fun ls hl => ?_)
      refine lv_iinc (v := (nI (k + 1))) (lv' := [(7, .int (nI (k + 1))), (5, .long (lN (a + ((wtS W (bitL ((tmk t v k) &&& x))) * (cnS (bitL ((tmk t v k) &&& x))))))), (8, .long ((tmk t v k) &&& x)), (0, .ref a0), (1, .int (nI v)), (2, .ref h0), (3, .long x)]) hx hb dX2_meanOf_50 hl (k := 6) rfl (iincP k 1) (by decide) rfl (fun ls hl => ?_)
      refine lv_goto (tgt := 6) hx hb dX2_meanOf_53 (by decide) ?_
      exact ih6 (k + 1, a + ((wtS W (bitL ((tmk t v k) &&& x))) * (cnS (bitL ((tmk t v k) &&& x))))) (show (a + ((wtS W (bitL ((tmk t v k) &&& x))) * (cnS (bitL ((tmk t v k) &&& x))))) = sz (fun z_ => wtS W (prt t (bitL x) v z_) * cnS (prt t (bitL x) v z_)) (k + 1) ∧ (k + 1) ≤ 9 from (⟨by rw [ha, bitL_prt hin]; exact me_step.symm, by omega⟩)) (show 9 - (k + 1) < 9 - k from (by omega)) _ _ _ hP hD hS (lv_sub hl [3, 4, 5, 6, 1, 0] rfl)

theorem kX2_faultsBehind : Cal yX2_faultsBehind wsX2_faultsBehind cX2_faultsBehind 10 (some .long) 3 := ⟨⟨_, rfl⟩, by decide +kernel⟩
set_option maxHeartbeats 4000000 in
set_option maxRecDepth 100000 in
theorem c_X2_faultsBehind (l : Launch) (g : EE) (a0 : Nat) (a1 : Nat) (a2 : Nat) (a3 : Nat) (a5 : Nat) (T : Nat → Int64) (ka : Nat) (h0 : Nat) (h1 : Nat) (h2 : Nat) (W : Nat → Nat) (B : Nat → Nat) (sk : Nat) (ek : Nat) (tr : Nat) (t : Nat → Nat → Nat) (v : Nat) (x : Int64) (hR : Rdy T ka t) (hka : ka ≤ 1107) (hv1 : 1 ≤ v) (hv : v ≤ 40) (hin : inS x) (hW : ∀ j, W j ≤ 9) (hB4 : B 4 ≤ 99) : CL l yX2_faultsBehind wsX2_faultsBehind ({ frames := 4, cells := 0, slots := 0, locals := 98 }) g [.ref a0, .int (nI v), .ref h0, .long x] [(a0, .inr (2, [.ref a1, .ref a2, .ref a3, .int (nI ka), .ref a5])), (a1, .inl (eJ g, 1476, .inr (.inl T))), (h0, .inr (0, [.ref h1, .ref h2, .int (nI sk), .int (nI ek), .int (nI tr)])), (h1, .inl (eI g, 41, .inl (fun j => nI (W j)))), (h2, .inl (eI g, 5, .inl (fun j => nI (B j))))] (fun (rz : Int64) (wz : va_W) => rz = (lN (fbS t W (bitL x) (B 4) v)) ∧ wz = [(a0, .inr (2, [.ref a1, .ref a2, .ref a3, .int (nI ka), .ref a5])), (a1, .inl (eJ g, 1476, .inr (.inl T))), (h0, .inr (0, [.ref h1, .ref h2, .int (nI sk), .int (nI ek), .int (nI tr)])), (h1, .inl (eI g, 41, .inl (fun j => nI (W j)))), (h2, .inl (eI g, 5, .inl (fun j => nI (B j))))]) 0 0 := by
  refine ctL (cc := cX2_faultsBehind) (maxL := 10) (ret := (some .long)) (by decide) rfl (Nat.le_of_ble_eq_true rfl) ?_
  intro p_ e_ s_ m_ bl_ mt_ cd_ A ls F hnm hP hD hS hl
  obtain ⟨hx, hb, hml, hown, hts, hK, hX, hA, hrt_, hlocks⟩ := id F
  have hl : lv_has ls 10 [(0, .ref a0), (1, .int (nI v)), (2, .ref h0), (3, .long x)] := hl
  refine lv_lconst (v := lN 0) hx hb dX2_faultsBehind_0 rfl ?_
  refine lv_lstore (lv' := [(5, .long (lN 0)), (0, .ref a0), (1, .int (nI v)), (2, .ref h0), (3, .long x)]) hx hb dX2_faultsBehind_1 hl (by decide) rfl (fun ls hl => ?_)
  refine lv_iconst (v := (nI 0)) hx hb dX2_faultsBehind_3 (by decide) ?_
  refine lv_istore (lv' := [(7, .int (nI 0)), (5, .long (lN 0)), (0, .ref a0), (1, .int (nI v)), (2, .ref h0), (3, .long x)]) hx hb dX2_faultsBehind_4 hl (by decide) rfl (fun ls hl => ?_)
  refine xlo (σ := Nat × Nat) 10 (fun xz_ => (fun (k : Nat) (a : Nat) => [(0, .ref a0), (1, .int (nI v)), (2, .ref h0), (3, .long x), (5, .long (lN a)), (7, .int (nI k))]) xz_.1 xz_.2) (fun xz_ => (fun (k : Nat) (a : Nat) => [(a0, .inr (2, [.ref a1, .ref a2, .ref a3, .int (nI ka), .ref a5])), (a1, .inl (eJ g, 1476, .inr (.inl T))), (h0, .inr (0, [.ref h1, .ref h2, .int (nI sk), .int (nI ek), .int (nI tr)])), (h1, .inl (eI g, 41, .inl (fun j => nI (W j)))), (h2, .inl (eI g, 5, .inl (fun j => nI (B j))))]) xz_.1 xz_.2) (fun xz_ => (fun (k : Nat) (a : Nat) => a = sz (fun z_ => faS W (prt t (bitL x) v z_) (giS W (prt t (bitL x) v z_) (B 4)) * B 4) k ∧ k ≤ 9) xz_.1 xz_.2) (fun xz_ => (fun (k : Nat) (a : Nat) => 9 - k) xz_.1 xz_.2) (fun xz_ hI ih6 H locs ls hP hD hS hl => ?_) (0, 0) (show 0 = sz (fun z_ => faS W (prt t (bitL x) v z_) (giS W (prt t (bitL x) v z_) (B 4)) * B 4) 0 ∧ 0 ≤ 9 from (⟨rfl, by omega⟩)) hP hD hS (lv_sub hl [2, 3, 4, 5, 1, 0] rfl)
  obtain ⟨k, a⟩ := xz_
  have hP : va_P (eD g) vwCl [(a0, .inr (2, [.ref a1, .ref a2, .ref a3, .int (nI ka), .ref a5])), (a1, .inl (eJ g, 1476, .inr (.inl T))), (h0, .inr (0, [.ref h1, .ref h2, .int (nI sk), .int (nI ek), .int (nI tr)])), (h1, .inl (eI g, 41, .inl (fun j => nI (W j)))), (h2, .inl (eI g, 5, .inl (fun j => nI (B j))))] H := hP
  have hD : va_D A [(a0, .inr (2, [.ref a1, .ref a2, .ref a3, .int (nI ka), .ref a5])), (a1, .inl (eJ g, 1476, .inr (.inl T))), (h0, .inr (0, [.ref h1, .ref h2, .int (nI sk), .int (nI ek), .int (nI tr)])), (h1, .inl (eI g, 41, .inl (fun j => nI (W j)))), (h2, .inl (eI g, 5, .inl (fun j => nI (B j))))] := hD
  have hl : lv_has ls 10 [(0, .ref a0), (1, .int (nI v)), (2, .ref h0), (3, .long x), (5, .long (lN a)), (7, .int (nI k))] := hl
  have hI6 : a = sz (fun z_ => faS W (prt t (bitL x) v z_) (giS W (prt t (bitL x) v z_) (B 4)) * B 4) k ∧ k ≤ 9 := hI
  clear hI
  obtain ⟨ha, hk⟩ := id hI6
  refine lv_iload hx hb dX2_faultsBehind_6 (lv_at hl 5 rfl) ?_
  refine lv_bipush (v := (nI 9)) hx hb dX2_faultsBehind_8 (by decide) ?_
  refine xge (tgt := 48) hx hb dX2_faultsBehind_10 (by decide) (by omega) (by omega) (fun c10 => ?_) (fun c10 => ?_)
  · skip
    refine lv_lload hx hb dX2_faultsBehind_48 (lv_at hl 4 rfl) ?_
    exact rtL F hP hD hS dX2_faultsBehind_50 (⟨by rw [ha, show k = 9 by omega]; rfl, rfl⟩)
  · skip
    refine lv_aload_n hx hb dX2_faultsBehind_13 rfl (lv_at hl 0 rfl) ?_
    refine lv_iload_n hx hb dX2_faultsBehind_14 rfl (lv_at hl 1 rfl) ?_
    refine lv_iload hx hb dX2_faultsBehind_15 (lv_at hl 5 rfl) ?_
    refine cVL (As := [.int (nI v), .int (nI k)]) (rest := []) F (c_X2_toldOf l g a0 a1 a2 a3 a5 T ka t v k (hR) (hka) (hv1) (hv) (by omega)) kX2_toldOf rfl gX2_faultsBehind_X2_toldOf rfl rfl ⟨Nat.le_of_ble_eq_true rfl, Nat.le_of_ble_eq_true rfl⟩ hP hD hS [0, 1] [2, 3, 4] rfl rfl 0 rfl rfl hl.1 rfl rfl (Nat.le_of_ble_eq_true rfl) dX2_faultsBehind_17 ⟨Nat.le_of_ble_eq_true rfl, Nat.le_of_ble_eq_true rfl⟩ (fun rz w1 H locs hpo hP hD hS => ?_)
    obtain ⟨rfl, rfl⟩ := hpo
    obtain ⟨hP, hD⟩ := nx (ws' := [(a0, .inr (2, [.ref a1, .ref a2, .ref a3, .int (nI ka), .ref a5])), (a1, .inl (eJ g, 1476, .inr (.inl T))), (h0, .inr (0, [.ref h1, .ref h2, .int (nI sk), .int (nI ek), .int (nI tr)])), (h1, .inl (eI g, 41, .inl (fun j => nI (W j)))), (h2, .inl (eI g, 5, .inl (fun j => nI (B j))))]) hP hD [3, 4, 0, 1, 2] (ndB_ok _ rfl) rfl
    refine lv_lload_n hx hb dX2_faultsBehind_20 rfl (lv_at hl 3 rfl) ?_
    refine lv_land hx hb dX2_faultsBehind_21 ?_
    refine lv_lstore (lv' := [(8, .long ((tmk t v k) &&& x)), (0, .ref a0), (1, .int (nI v)), (2, .ref h0), (3, .long x), (5, .long (lN a)), (7, .int (nI k))]) hx hb dX2_faultsBehind_22 hl (by decide) rfl (fun ls hl => ?_)
    refine lv_lload hx hb dX2_faultsBehind_24 (lv_at hl 0 rfl) ?_
    refine lv_lconst (v := lN 0) hx hb dX2_faultsBehind_26 rfl ?_
    refine jeq (tgt := 42) hx hb dX2_faultsBehind_27 dX2_faultsBehind_28 (by decide) (fun c28 => ?_) (fun c28 => ?_)
    · skip
      refine lv_iinc (v := (nI (k + 1))) (lv' := [(7, .int (nI (k + 1))), (8, .long ((tmk t v k) &&& x)), (0, .ref a0), (1, .int (nI v)), (2, .ref h0), (3, .long x), (5, .long (lN a))]) hx hb dX2_faultsBehind_42 hl (k := 6) rfl (iincP k 1) (by decide) rfl (fun ls hl => ?_)
      refine lv_goto (tgt := 6) hx hb dX2_faultsBehind_45 (by decide) ?_
      exact ih6 (k + 1, a) (show a = sz (fun z_ => faS W (prt t (bitL x) v z_) (giS W (prt t (bitL x) v z_) (B 4)) * B 4) (k + 1) ∧ (k + 1) ≤ 9 from (⟨by rw [ha]; exact (fb_skip ((part0 hin).mp c28)).symm, by omega⟩)) (show 9 - (k + 1) < 9 - k from (by omega)) _ _ _ hP hD hS (lv_sub hl [2, 3, 4, 5, 6, 0] rfl)
    · skip
      refine lv_lload hx hb dX2_faultsBehind_31 (lv_at hl 5 rfl) ?_
      refine lv_aload_n hx hb dX2_faultsBehind_33 rfl (lv_at hl 3 rfl) ?_
      refine lv_lload hx hb dX2_faultsBehind_34 (lv_at hl 0 rfl) ?_
      refine cVL (As := [.long ((tmk t v k) &&& x)]) (rest := [.long (lN a)]) F (c_X0_leastFaults l g h0 h1 h2 W B sk ek tr ((tmk t v k) &&& x) (hW) (hB4)) kX0_leastFaults rfl gX2_faultsBehind_X0_leastFaults rfl rfl ⟨Nat.le_of_ble_eq_true rfl, Nat.le_of_ble_eq_true rfl⟩ hP hD hS [2, 3, 4] [0, 1] rfl rfl 0 rfl rfl hl.1 rfl rfl (Nat.le_of_ble_eq_true rfl) dX2_faultsBehind_36 ⟨Nat.le_of_ble_eq_true rfl, Nat.le_of_ble_eq_true rfl⟩ (fun rz w1 H locs hpo hP hD hS => ?_)
      obtain ⟨rfl, rfl⟩ := hpo
      obtain ⟨hP, hD⟩ := nx (ws' := [(a0, .inr (2, [.ref a1, .ref a2, .ref a3, .int (nI ka), .ref a5])), (a1, .inl (eJ g, 1476, .inr (.inl T))), (h0, .inr (0, [.ref h1, .ref h2, .int (nI sk), .int (nI ek), .int (nI tr)])), (h1, .inl (eI g, 41, .inl (fun j => nI (W j)))), (h2, .inl (eI g, 5, .inl (fun j => nI (B j))))]) hP hD [0, 1, 2, 3, 4] (ndB_ok _ rfl) rfl
      refine xladd hx hb dX2_faultsBehind_39 ?_
      refine lv_lstore (lv' := [(5, .long (lN (a + (faS W (bitL ((tmk t v k) &&& x)) (giS W (bitL ((tmk t v k) &&& x)) (B 4)) * B 4)))), (8, .long ((tmk t v k) &&& x)), (0, .ref a0), (1, .int (nI v)), (2, .ref h0), (3, .long x), (7, .int (nI k))]) hx hb dX2_faultsBehind_40 hl (by decide) rfl (fun ls hl => ?_)
      refine lv_iinc (v := (nI (k + 1))) (lv' := [(7, .int (nI (k + 1))), (5, .long (lN (a + (faS W (bitL ((tmk t v k) &&& x)) (giS W (bitL ((tmk t v k) &&& x)) (B 4)) * B 4)))), (8, .long ((tmk t v k) &&& x)), (0, .ref a0), (1, .int (nI v)), (2, .ref h0), (3, .long x)]) hx hb dX2_faultsBehind_42 hl (k := 6) rfl (iincP k 1) (by decide) rfl (fun ls hl => ?_)
      refine lv_goto (tgt := 6) hx hb dX2_faultsBehind_45 (by decide) ?_
      exact ih6 (k + 1, a + (faS W (bitL ((tmk t v k) &&& x)) (giS W (bitL ((tmk t v k) &&& x)) (B 4)) * B 4)) (show (a + (faS W (bitL ((tmk t v k) &&& x)) (giS W (bitL ((tmk t v k) &&& x)) (B 4)) * B 4)) = sz (fun z_ => faS W (prt t (bitL x) v z_) (giS W (prt t (bitL x) v z_) (B 4)) * B 4) (k + 1) ∧ (k + 1) ≤ 9 from (⟨by rw [ha, bitL_prt hin]; exact fb_step.symm, by omega⟩)) (show 9 - (k + 1) < 9 - k from (by omega)) _ _ _ hP hD hS (lv_sub hl [3, 4, 5, 6, 1, 0] rfl)

theorem kX2_measured : Cal yX2_measured wsX2_measured cX2_measured 6 (some .long) 4 := ⟨⟨_, rfl⟩, by decide +kernel⟩
set_option maxHeartbeats 4000000 in
set_option maxRecDepth 100000 in
theorem c_X2_measured (l : Launch) (g : EE) (a0 : Nat) (a1 : Nat) (a2 : Nat) (a3 : Nat) (a5 : Nat) (T : Nat → Int64) (ka : Nat) (h0 : Nat) (h1 : Nat) (h2 : Nat) (W : Nat → Nat) (B : Nat → Nat) (sk : Nat) (ek : Nat) (tr : Nat) (t : Nat → Nat → Nat) (bb : Nat) (v : Nat) (x : Int64) (hbb : bb ≤ 2) (hR : Rdy T ka t) (hka : ka ≤ 1107) (hv1 : 1 ≤ v) (hv : v ≤ 40) (hin : inS x) (hW : ∀ j, W j ≤ 9) : CL l yX2_measured wsX2_measured ({ frames := 3, cells := 0, slots := 0, locals := 75 }) g [.ref a0, .int (nI bb), .int (nI v), .ref h0, .long x] [(a0, .inr (2, [.ref a1, .ref a2, .ref a3, .int (nI ka), .ref a5])), (a1, .inl (eJ g, 1476, .inr (.inl T))), (h0, .inr (0, [.ref h1, .ref h2, .int (nI sk), .int (nI ek), .int (nI tr)])), (h1, .inl (eI g, 41, .inl (fun j => nI (W j)))), (h2, .inl (eI g, 5, .inl (fun j => nI (B j))))] (fun (rz : Int64) (wz : va_W) => rz = (lI (msI t W (bitL x) bb v)) ∧ wz = [(a0, .inr (2, [.ref a1, .ref a2, .ref a3, .int (nI ka), .ref a5])), (a1, .inl (eJ g, 1476, .inr (.inl T))), (h0, .inr (0, [.ref h1, .ref h2, .int (nI sk), .int (nI ek), .int (nI tr)])), (h1, .inl (eI g, 41, .inl (fun j => nI (W j)))), (h2, .inl (eI g, 5, .inl (fun j => nI (B j))))]) 0 0 := by
  refine ctL (cc := cX2_measured) (maxL := 6) (ret := (some .long)) (by decide) rfl (Nat.le_of_ble_eq_true rfl) ?_
  intro p_ e_ s_ m_ bl_ mt_ cd_ A ls F hnm hP hD hS hl
  obtain ⟨hx, hb, hml, hown, hts, hK, hX, hA, hrt_, hlocks⟩ := id F
  have hl : lv_has ls 6 [(0, .ref a0), (1, .int (nI bb)), (2, .int (nI v)), (3, .ref h0), (4, .long x)] := hl
  refine lv_iload_n hx hb dX2_measured_0 rfl (lv_at hl 1 rfl) ?_
  rcases (show bb = 1 ∨ bb = 2 ∨ (bb ≠ 1 ∧ bb ≠ 2) by omega) with c1 | c1 | c1
  · refine lv_lookup (tgt := 28) hx hb dX2_measured_1 (by decide) (by rw [c1] <;> decide) (by decide) ?_
    refine lv_aload_n hx hb dX2_measured_28 rfl (lv_at hl 0 rfl) ?_
    refine lv_iload_n hx hb dX2_measured_29 rfl (lv_at hl 2 rfl) ?_
    refine lv_aload_n hx hb dX2_measured_30 rfl (lv_at hl 3 rfl) ?_
    refine lv_lload hx hb dX2_measured_31 (lv_at hl 4 rfl) ?_
    refine cVL (As := [.int (nI v), .ref h0, .long x]) (rest := []) F (c_X2_meanOf l g a0 a1 a2 a3 a5 T ka h0 h1 h2 W B sk ek tr t v x (hR) (hka) (hv1) (hv) (hin) (hW)) kX2_meanOf rfl gX2_measured_X2_meanOf rfl rfl ⟨Nat.le_of_ble_eq_true rfl, Nat.le_of_ble_eq_true rfl⟩ hP hD hS [0, 1, 2, 3, 4] [] rfl rfl 0 rfl rfl hl.1 rfl rfl (Nat.le_of_ble_eq_true rfl) dX2_measured_33 ⟨Nat.le_of_ble_eq_true rfl, Nat.le_of_ble_eq_true rfl⟩ (fun rz w1 H locs hpo hP hD hS => ?_)
    obtain ⟨rfl, rfl⟩ := hpo
    obtain ⟨hP, hD⟩ := nx (ws' := [(a0, .inr (2, [.ref a1, .ref a2, .ref a3, .int (nI ka), .ref a5])), (a1, .inl (eJ g, 1476, .inr (.inl T))), (h0, .inr (0, [.ref h1, .ref h2, .int (nI sk), .int (nI ek), .int (nI tr)])), (h1, .inl (eI g, 41, .inl (fun j => nI (W j)))), (h2, .inl (eI g, 5, .inl (fun j => nI (B j))))]) hP hD [0, 1, 2, 3, 4] (ndB_ok _ rfl) rfl
    exact rtL F hP hD hS dX2_measured_36 (⟨by unfold msI; rw [if_pos c1]; rfl, rfl⟩)
  · refine lv_lookup (tgt := 37) hx hb dX2_measured_1 (by decide) (by rw [c1] <;> decide) (by decide) ?_
    refine lv_aload_n hx hb dX2_measured_37 rfl (lv_at hl 0 rfl) ?_
    refine lv_iload_n hx hb dX2_measured_38 rfl (lv_at hl 2 rfl) ?_
    refine lv_lload hx hb dX2_measured_39 (lv_at hl 4 rfl) ?_
    refine cVI (As := [.int (nI v), .long x]) (rest := []) F (c_X2_partsOf l g a0 a1 a2 a3 a5 T ka t v x (hR) (hka) (hv1) (hv) (hin)) kX2_partsOf rfl gX2_measured_X2_partsOf rfl rfl ⟨Nat.le_of_ble_eq_true rfl, Nat.le_of_ble_eq_true rfl⟩ hP hD hS [0, 1] [2, 3, 4] rfl rfl 0 rfl rfl hl.1 rfl rfl (Nat.le_of_ble_eq_true rfl) dX2_measured_41 ⟨Nat.le_of_ble_eq_true rfl, Nat.le_of_ble_eq_true rfl⟩ (fun rz w1 H locs hpo hP hD hS => ?_)
    obtain ⟨rfl, rfl⟩ := hpo
    obtain ⟨hP, hD⟩ := nx (ws' := [(a0, .inr (2, [.ref a1, .ref a2, .ref a3, .int (nI ka), .ref a5])), (a1, .inl (eJ g, 1476, .inr (.inl T))), (h0, .inr (0, [.ref h1, .ref h2, .int (nI sk), .int (nI ek), .int (nI tr)])), (h1, .inl (eI g, 41, .inl (fun j => nI (W j)))), (h2, .inl (eI g, 5, .inl (fun j => nI (B j))))]) hP hD [3, 4, 0, 1, 2] (ndB_ok _ rfl) rfl
    refine lv_ineg hx hb dX2_measured_44 ?_
    refine lv_i2l hx hb dX2_measured_45 rfl ?_
    exact rtL F hP hD hS dX2_measured_46 (⟨by unfold msI; rw [if_neg (by omega), if_pos c1]; exact neg_lI (paS_b _ _ _), rfl⟩)
  · refine lv_lookup (tgt := 47) hx hb dX2_measured_1 (by decide) (off := 46) (show Op.lookupswitch.offset [(1, 27), (2, 36)] 46 (nI bb).toInt = 46 by rw [lv_osw (k := nI 1) (nI_neq (by omega) (by omega) (by omega)) (by decide), lv_osw (k := nI 2) (nI_neq (by omega) (by omega) (by omega)) (by decide)]; rfl) (by decide) ?_
    refine lv_aload_n hx hb dX2_measured_47 rfl (lv_at hl 0 rfl) ?_
    refine lv_iload_n hx hb dX2_measured_48 rfl (lv_at hl 2 rfl) ?_
    refine lv_lload hx hb dX2_measured_49 (lv_at hl 4 rfl) ?_
    refine cVI (As := [.int (nI v), .long x]) (rest := []) F (c_X2_worstOf l g a0 a1 a2 a3 a5 T ka t v x (hR) (hka) (hv1) (hv) (hin)) kX2_worstOf rfl gX2_measured_X2_worstOf rfl rfl ⟨Nat.le_of_ble_eq_true rfl, Nat.le_of_ble_eq_true rfl⟩ hP hD hS [0, 1] [2, 3, 4] rfl rfl 0 rfl rfl hl.1 rfl rfl (Nat.le_of_ble_eq_true rfl) dX2_measured_51 ⟨Nat.le_of_ble_eq_true rfl, Nat.le_of_ble_eq_true rfl⟩ (fun rz w1 H locs hpo hP hD hS => ?_)
    obtain ⟨rfl, rfl⟩ := hpo
    obtain ⟨hP, hD⟩ := nx (ws' := [(a0, .inr (2, [.ref a1, .ref a2, .ref a3, .int (nI ka), .ref a5])), (a1, .inl (eJ g, 1476, .inr (.inl T))), (h0, .inr (0, [.ref h1, .ref h2, .int (nI sk), .int (nI ek), .int (nI tr)])), (h1, .inl (eI g, 41, .inl (fun j => nI (W j)))), (h2, .inl (eI g, 5, .inl (fun j => nI (B j))))]) hP hD [3, 4, 0, 1, 2] (ndB_ok _ rfl) rfl
    refine lv_i2l (v := lN (woS t (bitL x) v)) hx hb dX2_measured_54 (nI_l (by have := woS_b t (bitL x) v; omega)) ?_
    exact rtL F hP hD hS dX2_measured_55 (⟨by unfold msI; rw [if_neg (by omega), if_neg (by omega)]; rfl, rfl⟩)

theorem kX2_bestBy : Cal yX2_bestBy wsX2_bestBy cX2_bestBy 11 (some .int) 3 := ⟨⟨_, rfl⟩, by decide +kernel⟩
set_option maxHeartbeats 4000000 in
set_option maxRecDepth 100000 in
theorem c_X2_bestBy (l : Launch) (g : EE) (a0 : Nat) (a1 : Nat) (a2 : Nat) (a3 : Nat) (a5 : Nat) (T : Nat → Int64) (ka : Nat) (h0 : Nat) (h1 : Nat) (h2 : Nat) (W : Nat → Nat) (B : Nat → Nat) (sk : Nat) (ek : Nat) (tr : Nat) (t : Nat → Nat → Nat) (bb : Nat) (x : Int64) (hbb : bb ≤ 2) (hR : Rdy T ka t) (hka : ka ≤ 1107) (hin : inS x) (hW : ∀ j, W j ≤ 9) : CI l yX2_bestBy wsX2_bestBy ({ frames := 4, cells := 0, slots := 0, locals := 100 }) g [.ref a0, .int (nI bb), .ref h0, .long x] [(a0, .inr (2, [.ref a1, .ref a2, .ref a3, .int (nI ka), .ref a5])), (a1, .inl (eJ g, 1476, .inr (.inl T))), (h0, .inr (0, [.ref h1, .ref h2, .int (nI sk), .int (nI ek), .int (nI tr)])), (h1, .inl (eI g, 41, .inl (fun j => nI (W j)))), (h2, .inl (eI g, 5, .inl (fun j => nI (B j))))] (fun (rz : Int32) (wz : va_W) => rz = (nI (bsI t W (bitL x) bb)) ∧ wz = [(a0, .inr (2, [.ref a1, .ref a2, .ref a3, .int (nI ka), .ref a5])), (a1, .inl (eJ g, 1476, .inr (.inl T))), (h0, .inr (0, [.ref h1, .ref h2, .int (nI sk), .int (nI ek), .int (nI tr)])), (h1, .inl (eI g, 41, .inl (fun j => nI (W j)))), (h2, .inl (eI g, 5, .inl (fun j => nI (B j))))]) 0 0 := by
  refine ctI (cc := cX2_bestBy) (maxL := 11) (ret := (some .int)) (by decide) rfl (Nat.le_of_ble_eq_true rfl) ?_
  intro p_ e_ s_ m_ bl_ mt_ cd_ A ls F hnm hP hD hS hl
  obtain ⟨hx, hb, hml, hown, hts, hK, hX, hA, hrt_, hlocks⟩ := id F
  have hl : lv_has ls 11 [(0, .ref a0), (1, .int (nI bb)), (2, .ref h0), (3, .long x)] := hl
  refine lv_iconst (v := (nI 1)) hx hb dX2_bestBy_0 (by decide) ?_
  refine lv_istore (lv' := [(5, .int (nI 1)), (0, .ref a0), (1, .int (nI bb)), (2, .ref h0), (3, .long x)]) hx hb dX2_bestBy_1 hl (by decide) rfl (fun ls hl => ?_)
  refine lv_aload_n hx hb dX2_bestBy_3 rfl (lv_at hl 1 rfl) ?_
  refine lv_iload_n hx hb dX2_bestBy_4 rfl (lv_at hl 2 rfl) ?_
  refine lv_iconst (v := (nI 1)) hx hb dX2_bestBy_5 (by decide) ?_
  refine lv_aload_n hx hb dX2_bestBy_6 rfl (lv_at hl 3 rfl) ?_
  refine lv_lload_n hx hb dX2_bestBy_7 rfl (lv_at hl 4 rfl) ?_
  refine cVL (As := [.int (nI bb), .int (nI 1), .ref h0, .long x]) (rest := []) F (c_X2_measured l g a0 a1 a2 a3 a5 T ka h0 h1 h2 W B sk ek tr t bb 1 x (hbb) (hR) (hka) (by omega) (by omega) (hin) (hW)) kX2_measured rfl gX2_bestBy_X2_measured rfl rfl ⟨Nat.le_of_ble_eq_true rfl, Nat.le_of_ble_eq_true rfl⟩ hP hD hS [0, 1, 2, 3, 4] [] rfl rfl 0 rfl rfl hl.1 rfl rfl (Nat.le_of_ble_eq_true rfl) dX2_bestBy_8 ⟨Nat.le_of_ble_eq_true rfl, Nat.le_of_ble_eq_true rfl⟩ (fun rz w1 H locs hpo hP hD hS => ?_)
  obtain ⟨rfl, rfl⟩ := hpo
  obtain ⟨hP, hD⟩ := nx (ws' := [(a0, .inr (2, [.ref a1, .ref a2, .ref a3, .int (nI ka), .ref a5])), (a1, .inl (eJ g, 1476, .inr (.inl T))), (h0, .inr (0, [.ref h1, .ref h2, .int (nI sk), .int (nI ek), .int (nI tr)])), (h1, .inl (eI g, 41, .inl (fun j => nI (W j)))), (h2, .inl (eI g, 5, .inl (fun j => nI (B j))))]) hP hD [0, 1, 2, 3, 4] (ndB_ok _ rfl) rfl
  refine lv_lstore (lv' := [(6, .long (lI (msI t W (bitL x) bb 1))), (5, .int (nI 1)), (0, .ref a0), (1, .int (nI bb)), (2, .ref h0), (3, .long x)]) hx hb dX2_bestBy_11 hl (by decide) rfl (fun ls hl => ?_)
  refine lv_iconst (v := (nI 2)) hx hb dX2_bestBy_13 (by decide) ?_
  refine lv_istore (lv' := [(8, .int (nI 2)), (6, .long (lI (msI t W (bitL x) bb 1))), (5, .int (nI 1)), (0, .ref a0), (1, .int (nI bb)), (2, .ref h0), (3, .long x)]) hx hb dX2_bestBy_14 hl (by decide) rfl (fun ls hl => ?_)
  refine xlo (σ := Nat × Nat) 11 (fun xz_ => (fun (i : Nat) (b : Nat) => [(0, .ref a0), (1, .int (nI bb)), (2, .ref h0), (3, .long x), (5, .int (nI b)), (6, .long (lI (msI t W (bitL x) bb b))), (8, .int (nI i))]) xz_.1 xz_.2) (fun xz_ => (fun (i : Nat) (b : Nat) => [(a0, .inr (2, [.ref a1, .ref a2, .ref a3, .int (nI ka), .ref a5])), (a1, .inl (eJ g, 1476, .inr (.inl T))), (h0, .inr (0, [.ref h1, .ref h2, .int (nI sk), .int (nI ek), .int (nI tr)])), (h1, .inl (eI g, 41, .inl (fun j => nI (W j)))), (h2, .inl (eI g, 5, .inl (fun j => nI (B j))))]) xz_.1 xz_.2) (fun xz_ => (fun (i : Nat) (b : Nat) => b = am (msI t W (bitL x) bb) (i - 1) ∧ 2 ≤ i ∧ i ≤ 41) xz_.1 xz_.2) (fun xz_ => (fun (i : Nat) (b : Nat) => 41 - i) xz_.1 xz_.2) (fun xz_ hI ih16 H locs ls hP hD hS hl => ?_) (2, 1) (show 1 = am (msI t W (bitL x) bb) (2 - 1) ∧ 2 ≤ 2 ∧ 2 ≤ 41 from (⟨(am_1 _).symm, by omega, by omega⟩)) hP hD hS (lv_sub hl [3, 4, 5, 6, 2, 1, 0] rfl)
  obtain ⟨i, b⟩ := xz_
  have hP : va_P (eD g) vwCl [(a0, .inr (2, [.ref a1, .ref a2, .ref a3, .int (nI ka), .ref a5])), (a1, .inl (eJ g, 1476, .inr (.inl T))), (h0, .inr (0, [.ref h1, .ref h2, .int (nI sk), .int (nI ek), .int (nI tr)])), (h1, .inl (eI g, 41, .inl (fun j => nI (W j)))), (h2, .inl (eI g, 5, .inl (fun j => nI (B j))))] H := hP
  have hD : va_D A [(a0, .inr (2, [.ref a1, .ref a2, .ref a3, .int (nI ka), .ref a5])), (a1, .inl (eJ g, 1476, .inr (.inl T))), (h0, .inr (0, [.ref h1, .ref h2, .int (nI sk), .int (nI ek), .int (nI tr)])), (h1, .inl (eI g, 41, .inl (fun j => nI (W j)))), (h2, .inl (eI g, 5, .inl (fun j => nI (B j))))] := hD
  have hl : lv_has ls 11 [(0, .ref a0), (1, .int (nI bb)), (2, .ref h0), (3, .long x), (5, .int (nI b)), (6, .long (lI (msI t W (bitL x) bb b))), (8, .int (nI i))] := hl
  have hI16 : b = am (msI t W (bitL x) bb) (i - 1) ∧ 2 ≤ i ∧ i ≤ 41 := hI
  clear hI
  obtain ⟨hb0, hi1, hi2⟩ := id hI16
  refine lv_iload hx hb dX2_bestBy_16 (lv_at hl 6 rfl) ?_
  refine lv_bipush (v := (nI 40)) hx hb dX2_bestBy_18 (by decide) ?_
  refine xgt (tgt := 56) hx hb dX2_bestBy_20 (by decide) (by omega) (by omega) (fun c20 => ?_) (fun c20 => ?_)
  · skip
    refine lv_iload hx hb dX2_bestBy_56 (lv_at hl 4 rfl) ?_
    exact rtI F hP hD hS dX2_bestBy_58 (⟨by rw [hb0, show i - 1 = 40 by omega]; rfl, rfl⟩)
  · skip
    refine lv_aload_n hx hb dX2_bestBy_23 rfl (lv_at hl 0 rfl) ?_
    refine lv_iload_n hx hb dX2_bestBy_24 rfl (lv_at hl 1 rfl) ?_
    refine lv_iload hx hb dX2_bestBy_25 (lv_at hl 6 rfl) ?_
    refine lv_aload_n hx hb dX2_bestBy_27 rfl (lv_at hl 2 rfl) ?_
    refine lv_lload_n hx hb dX2_bestBy_28 rfl (lv_at hl 3 rfl) ?_
    refine cVL (As := [.int (nI bb), .int (nI i), .ref h0, .long x]) (rest := []) F (c_X2_measured l g a0 a1 a2 a3 a5 T ka h0 h1 h2 W B sk ek tr t bb i x (hbb) (hR) (hka) (by omega) (by omega) (hin) (hW)) kX2_measured rfl gX2_bestBy_X2_measured rfl rfl ⟨Nat.le_of_ble_eq_true rfl, Nat.le_of_ble_eq_true rfl⟩ hP hD hS [0, 1, 2, 3, 4] [] rfl rfl 0 rfl rfl hl.1 rfl rfl (Nat.le_of_ble_eq_true rfl) dX2_bestBy_29 ⟨Nat.le_of_ble_eq_true rfl, Nat.le_of_ble_eq_true rfl⟩ (fun rz w1 H locs hpo hP hD hS => ?_)
    obtain ⟨rfl, rfl⟩ := hpo
    obtain ⟨hP, hD⟩ := nx (ws' := [(a0, .inr (2, [.ref a1, .ref a2, .ref a3, .int (nI ka), .ref a5])), (a1, .inl (eJ g, 1476, .inr (.inl T))), (h0, .inr (0, [.ref h1, .ref h2, .int (nI sk), .int (nI ek), .int (nI tr)])), (h1, .inl (eI g, 41, .inl (fun j => nI (W j)))), (h2, .inl (eI g, 5, .inl (fun j => nI (B j))))]) hP hD [0, 1, 2, 3, 4] (ndB_ok _ rfl) rfl
    refine lv_lstore (lv' := [(9, .long (lI (msI t W (bitL x) bb i))), (0, .ref a0), (1, .int (nI bb)), (2, .ref h0), (3, .long x), (5, .int (nI b)), (6, .long (lI (msI t W (bitL x) bb b))), (8, .int (nI i))]) hx hb dX2_bestBy_32 hl (by decide) rfl (fun ls hl => ?_)
    refine lv_lload hx hb dX2_bestBy_34 (lv_at hl 0 rfl) ?_
    refine lv_lload hx hb dX2_bestBy_36 (lv_at hl 6 rfl) ?_
    refine jge (tgt := 50) hx hb dX2_bestBy_38 dX2_bestBy_39 (by decide) (fun c39 => ?_) (fun c39 => ?_)
    · skip
      refine lv_iinc (v := (nI (i + 1))) (lv' := [(8, .int (nI (i + 1))), (9, .long (lI (msI t W (bitL x) bb i))), (0, .ref a0), (1, .int (nI bb)), (2, .ref h0), (3, .long x), (5, .int (nI b)), (6, .long (lI (msI t W (bitL x) bb b)))]) hx hb dX2_bestBy_50 hl (k := 7) rfl (iincP i 1) (by decide) rfl (fun ls hl => ?_)
      refine lv_goto (tgt := 16) hx hb dX2_bestBy_53 (by decide) ?_
      exact ih16 (i + 1, b) (show b = am (msI t W (bitL x) bb) ((i + 1) - 1) ∧ 2 ≤ (i + 1) ∧ (i + 1) ≤ 41 from (⟨am_old (by omega) hb0 (Int.not_lt.mp (fun q => c39 ((lI_lt (msI_b hW) (msI_b hW)).mpr q))), by omega, by omega⟩)) (show 41 - (i + 1) < 41 - i from (by omega)) _ _ _ hP hD hS (lv_sub hl [2, 3, 4, 5, 6, 7, 0] rfl)
    · skip
      refine lv_lload hx hb dX2_bestBy_42 (lv_at hl 0 rfl) ?_
      refine lv_lstore (lv' := [(6, .long (lI (msI t W (bitL x) bb i))), (9, .long (lI (msI t W (bitL x) bb i))), (0, .ref a0), (1, .int (nI bb)), (2, .ref h0), (3, .long x), (5, .int (nI b)), (8, .int (nI i))]) hx hb dX2_bestBy_44 hl (by decide) rfl (fun ls hl => ?_)
      refine lv_iload hx hb dX2_bestBy_46 (lv_at hl 7 rfl) ?_
      refine lv_istore (lv' := [(5, .int (nI i)), (6, .long (lI (msI t W (bitL x) bb i))), (9, .long (lI (msI t W (bitL x) bb i))), (0, .ref a0), (1, .int (nI bb)), (2, .ref h0), (3, .long x), (8, .int (nI i))]) hx hb dX2_bestBy_48 hl (by decide) rfl (fun ls hl => ?_)
      refine lv_iinc (v := (nI (i + 1))) (lv' := [(8, .int (nI (i + 1))), (5, .int (nI i)), (6, .long (lI (msI t W (bitL x) bb i))), (9, .long (lI (msI t W (bitL x) bb i))), (0, .ref a0), (1, .int (nI bb)), (2, .ref h0), (3, .long x)]) hx hb dX2_bestBy_50 hl (k := 7) rfl (iincP i 1) (by decide) rfl (fun ls hl => ?_)
      refine lv_goto (tgt := 16) hx hb dX2_bestBy_53 (by decide) ?_
      exact ih16 (i + 1, i) (show i = am (msI t W (bitL x) bb) ((i + 1) - 1) ∧ 2 ≤ (i + 1) ∧ (i + 1) ≤ 41 from (⟨am_new (by omega) hb0 ((lI_lt (msI_b hW) (msI_b hW)).mp c39), by omega, by omega⟩)) (show 41 - (i + 1) < 41 - i from (by omega)) _ _ _ hP hD hS (lv_sub hl [4, 5, 6, 7, 1, 2, 0] rfl)
