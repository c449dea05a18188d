theorem lkJ0_isLatin1_aae02_1 : Cond.fieldLink RJ0 38 "java/lang/String" "COMPACT_STRINGS" "Z" ∈ wsJ0_isLatin1_aae02 := List.mem_of_getElem? (i := 1) rfl
theorem lkJ0_isLatin1_aae02_2 : Cond.fieldLink RJ0 15 "java/lang/String" "coder" "B" ∈ wsJ0_isLatin1_aae02 := List.mem_of_getElem? (i := 2) rfl
theorem kJ0_isLatin1_aae02 : Cal yJ0_isLatin1_aae02 wsJ0_isLatin1_aae02 cJ0_isLatin1_aae02 1 (some .boolean) 0 := ⟨⟨_, rfl⟩, by decide +kernel⟩
set_option maxHeartbeats 1000000 in
set_option maxRecDepth 100000 in
theorem c_J0_isLatin1_aae02 (l : Launch) (g : EE) (i : Nat) (hi : i < 9) : CI l yJ0_isLatin1_aae02 wsJ0_isLatin1_aae02 ({ frames := 0, cells := 0, slots := 0, locals := 0 }) g [.ref (eK g i)] [] (fun (rz : Int32) (wz : va_W) => rz = (nI 1) ∧ wz = []) 0 0 := by
  refine ctI (cc := cJ0_isLatin1_aae02) (maxL := 1) (ret := (some .boolean)) (by decide) rfl (Nat.le_of_ble_eq_true rfl) ?_
  intro p_ e_ s_ m_ bl_ mt_ cd_ A ls F hnm hP hD hS hl
  obtain ⟨hx, hb, hml, hown, hts, hK, hX, hA, hrt_, hlocks⟩ := id F
  have hl : lv_has ls 1 [(0, .ref (eK g i))] := hl
  refine xsZ F hS lkJ0_isLatin1_aae02_1 dJ0_isLatin1_aae02_0 ?_
  refine zeq (tgt := 17) hx hb dJ0_isLatin1_aae02_3 (by decide) (by omega) (fun c => absurd c (by decide)) (fun c => ?_)
  refine lv_aload_n hx hb dJ0_isLatin1_aae02_6 rfl (lv_at hl 0 rfl) ?_
  refine xsC F hS (i := i) (by omega) lkJ0_isLatin1_aae02_2 dJ0_isLatin1_aae02_7 ?_
  refine zne (tgt := 17) hx hb dJ0_isLatin1_aae02_10 (by decide) (by omega) (fun c => absurd c (by decide)) (fun c => ?_)
  refine lv_iconst (v := (nI 1)) hx hb dJ0_isLatin1_aae02_13 (by decide) ?_
  refine lv_goto (tgt := 18) hx hb dJ0_isLatin1_aae02_14 (by decide) ?_
  exact rtZ F hP hD hS dJ0_isLatin1_aae02_18 (rfl) (⟨rfl, rfl⟩)

theorem lkJ0_coder_7d493_1 : Cond.fieldLink RJ0 38 "java/lang/String" "COMPACT_STRINGS" "Z" ∈ wsJ0_coder_7d493 := List.mem_of_getElem? (i := 1) rfl
theorem lkJ0_coder_7d493_2 : Cond.fieldLink RJ0 15 "java/lang/String" "coder" "B" ∈ wsJ0_coder_7d493 := List.mem_of_getElem? (i := 2) rfl
theorem kJ0_coder_7d493 : Cal yJ0_coder_7d493 wsJ0_coder_7d493 cJ0_coder_7d493 1 (some .byte) 0 := ⟨⟨_, rfl⟩, by decide +kernel⟩
set_option maxHeartbeats 1000000 in
set_option maxRecDepth 100000 in
theorem c_J0_coder_7d493 (l : Launch) (g : EE) (i : Nat) (hi : i < 9) : CI l yJ0_coder_7d493 wsJ0_coder_7d493 ({ frames := 0, cells := 0, slots := 0, locals := 0 }) g [.ref (eK g i)] [] (fun (rz : Int32) (wz : va_W) => rz = (nI 0) ∧ wz = []) 0 0 := by
  refine ctI (cc := cJ0_coder_7d493) (maxL := 1) (ret := (some .byte)) (by decide) rfl (Nat.le_of_ble_eq_true rfl) ?_
  intro p_ e_ s_ m_ bl_ mt_ cd_ A ls F hnm hP hD hS hl
  obtain ⟨hx, hb, hml, hown, hts, hK, hX, hA, hrt_, hlocks⟩ := id F
  have hl : lv_has ls 1 [(0, .ref (eK g i))] := hl
  refine xsZ F hS lkJ0_coder_7d493_1 dJ0_coder_7d493_0 ?_
  refine zeq (tgt := 13) hx hb dJ0_coder_7d493_3 (by decide) (by omega) (fun c => absurd c (by decide)) (fun c => ?_)
  refine lv_aload_n hx hb dJ0_coder_7d493_6 rfl (lv_at hl 0 rfl) ?_
  refine xsC F hS (i := i) (by omega) lkJ0_coder_7d493_2 dJ0_coder_7d493_7 ?_
  refine lv_goto (tgt := 14) hx hb dJ0_coder_7d493_10 (by decide) ?_
  exact rtB F hP hD hS dJ0_coder_7d493_14 (rfl) (⟨rfl, rfl⟩)

theorem lkJ0_length_8abf5_1 : Cond.fieldLink RJ0 9 "java/lang/String" "value" "[B" ∈ wsJ0_length_8abf5 := List.mem_of_getElem? (i := 1) rfl
theorem kJ0_length_8abf5 : Cal yJ0_length_8abf5 wsJ0_length_8abf5 cJ0_length_8abf5 1 (some .int) 0 := ⟨⟨_, rfl⟩, by decide +kernel⟩
set_option maxHeartbeats 1000000 in
set_option maxRecDepth 100000 in
theorem c_J0_length_8abf5 (l : Launch) (g : EE) (i : Nat) (hi : i < 9) : CI l yJ0_length_8abf5 wsJ0_length_8abf5 ({ frames := 1, cells := 0, slots := 0, locals := 20 }) g [.ref (eK g i)] [] (fun (rz : Int32) (wz : va_W) => rz = (nI (ln i)) ∧ wz = []) 0 0 := by
  refine ctI (cc := cJ0_length_8abf5) (maxL := 1) (ret := (some .int)) (by decide) rfl (Nat.le_of_ble_eq_true rfl) ?_
  intro p_ e_ s_ m_ bl_ mt_ cd_ A ls F hnm hP hD hS hl
  obtain ⟨hx, hb, hml, hown, hts, hK, hX, hA, hrt_, hlocks⟩ := id F
  have hl : lv_has ls 1 [(0, .ref (eK g i))] := hl
  refine lv_aload_n hx hb dJ0_length_8abf5_0 rfl (lv_at hl 0 rfl) ?_
  refine xsV F hS (i := i) (by omega) lkJ0_length_8abf5_1 dJ0_length_8abf5_1 ?_
  refine xsL F hS (i := i) (by omega) dJ0_length_8abf5_4 ?_
  refine lv_aload_n hx hb dJ0_length_8abf5_5 rfl (lv_at hl 0 rfl) ?_
  refine cKI (As := []) (rest := [.int (nI (ln i))]) F (i := i) (c_J0_coder_7d493 l g i (by omega)) kJ0_coder_7d493 rfl gJ0_length_8abf5_J0_coder_7d493 rfl rfl ⟨Nat.le_of_ble_eq_true rfl, Nat.le_of_ble_eq_true rfl⟩ hP hD hS [] [] rfl rfl (by omega) hl.1 rfl rfl (Nat.le_of_ble_eq_true rfl) dJ0_length_8abf5_6 ⟨Nat.le_of_ble_eq_true rfl, Nat.le_of_ble_eq_true rfl⟩ (fun rz w1 H locs hpo hP hD hS => ?_)
  obtain ⟨rfl, rfl⟩ := hpo
  obtain ⟨hP, hD⟩ := nx (ws' := []) hP hD [] (ndB_ok _ rfl) rfl
  refine lv_ishr hx hb dJ0_length_8abf5_9 ?_
  refine sti (shr_0 _) ?_
  exact rtI F hP hD hS dJ0_length_8abf5_10 (⟨rfl, rfl⟩)

theorem lkJ0_isEmpty_aae02_1 : Cond.fieldLink RJ0 9 "java/lang/String" "value" "[B" ∈ wsJ0_isEmpty_aae02 := List.mem_of_getElem? (i := 1) rfl
theorem kJ0_isEmpty_aae02 : Cal yJ0_isEmpty_aae02 wsJ0_isEmpty_aae02 cJ0_isEmpty_aae02 1 (some .boolean) 0 := ⟨⟨_, rfl⟩, by decide +kernel⟩
set_option maxHeartbeats 1000000 in
set_option maxRecDepth 100000 in
theorem c_J0_isEmpty_aae02 (l : Launch) (g : EE) (i : Nat) (hi : i < 9) : CI l yJ0_isEmpty_aae02 wsJ0_isEmpty_aae02 ({ frames := 0, cells := 0, slots := 0, locals := 0 }) g [.ref (eK g i)] [] (fun (rz : Int32) (wz : va_W) => rz = (nI (if ln i = 0 then 1 else 0)) ∧ wz = []) 0 0 := by
  refine ctI (cc := cJ0_isEmpty_aae02) (maxL := 1) (ret := (some .boolean)) (by decide) rfl (Nat.le_of_ble_eq_true rfl) ?_
  intro p_ e_ s_ m_ bl_ mt_ cd_ A ls F hnm hP hD hS hl
  obtain ⟨hx, hb, hml, hown, hts, hK, hX, hA, hrt_, hlocks⟩ := id F
  have hl : lv_has ls 1 [(0, .ref (eK g i))] := hl
  have hl6 := ln_b i hi
  refine lv_aload_n hx hb dJ0_isEmpty_aae02_0 rfl (lv_at hl 0 rfl) ?_
  refine xsV F hS (i := i) (by omega) lkJ0_isEmpty_aae02_1 dJ0_isEmpty_aae02_1 ?_
  refine xsL F hS (i := i) (by omega) dJ0_isEmpty_aae02_4 ?_
  refine zne (tgt := 12) hx hb dJ0_isEmpty_aae02_5 (by decide) (by omega) (fun c5 => ?_) (fun c5 => ?_)
  · skip
    refine lv_iconst (v := (nI 0)) hx hb dJ0_isEmpty_aae02_12 (by decide) ?_
    exact rtZ F hP hD hS dJ0_isEmpty_aae02_13 (rfl) (⟨by first | rw [if_pos (by omega)] | rw [if_neg (by omega)], rfl⟩)
  · skip
    refine lv_iconst (v := (nI 1)) hx hb dJ0_isEmpty_aae02_8 (by decide) ?_
    refine lv_goto (tgt := 13) hx hb dJ0_isEmpty_aae02_9 (by decide) ?_
    exact rtZ F hP hD hS dJ0_isEmpty_aae02_13 (rfl) (⟨by first | rw [if_pos (by omega)] | rw [if_neg (by omega)], rfl⟩)

theorem kJ3_checkIndex_8e157 : Cal yJ3_checkIndex_8e157 wsJ3_checkIndex_8e157 cJ3_checkIndex_8e157 3 (some .int) 3 := ⟨⟨_, rfl⟩, by decide +kernel⟩
set_option maxHeartbeats 1000000 in
set_option maxRecDepth 100000 in
theorem c_J3_checkIndex_8e157 (l : Launch) (g : EE) (k : Nat) (n : Nat) (f0 : Nat) (hk : k < n) (hn : n < 1000) : CI l yJ3_checkIndex_8e157 wsJ3_checkIndex_8e157 ({ frames := 0, cells := 0, slots := 0, locals := 0 }) g [.int (nI k), .int (nI n), .ref f0] [] (fun (rz : Int32) (wz : va_W) => rz = (nI k) ∧ wz = []) 0 0 := by
  refine ctI (cc := cJ3_checkIndex_8e157) (maxL := 3) (ret := (some .int)) (by decide) rfl (Nat.le_of_ble_eq_true rfl) ?_
  intro p_ e_ s_ m_ bl_ mt_ cd_ A ls F hnm hP hD hS hl
  obtain ⟨hx, hb, hml, hown, hts, hK, hX, hA, hrt_, hlocks⟩ := id F
  have hl : lv_has ls 3 [(0, .int (nI k)), (1, .int (nI n)), (2, .ref f0)] := hl
  refine lv_iload_n hx hb dJ3_checkIndex_8e157_0 rfl (lv_at hl 0 rfl) ?_
  refine zlt (tgt := 9) hx hb dJ3_checkIndex_8e157_1 (by decide) (by omega) ?_
  refine lv_iload_n hx hb dJ3_checkIndex_8e157_4 rfl (lv_at hl 0 rfl) ?_
  refine lv_iload_n hx hb dJ3_checkIndex_8e157_5 rfl (lv_at hl 1 rfl) ?_
  refine xlt (tgt := 16) hx hb dJ3_checkIndex_8e157_6 (by decide) (by omega) (by omega) (fun c6 => ?_) (fun c6 => ?_)
  · skip
    refine lv_iload_n hx hb dJ3_checkIndex_8e157_16 rfl (lv_at hl 0 rfl) ?_
    exact rtI F hP hD hS dJ3_checkIndex_8e157_17 (⟨rfl, rfl⟩)
  · skip
    exfalso; omega
set_option maxHeartbeats 1000000 in
set_option maxRecDepth 100000 in
theorem c_J3_checkIndex_8e157n (l : Launch) (g : EE) (k : Nat) (n : Nat) (hk : k < n) (hn : n < 1000) : CI l yJ3_checkIndex_8e157 wsJ3_checkIndex_8e157 ({ frames := 0, cells := 0, slots := 0, locals := 0 }) g [.int (nI k), .int (nI n), .null] [] (fun (rz : Int32) (wz : va_W) => rz = (nI k) ∧ wz = []) 0 0 := by
  refine ctI (cc := cJ3_checkIndex_8e157) (maxL := 3) (ret := (some .int)) (by decide) rfl (Nat.le_of_ble_eq_true rfl) ?_
  intro p_ e_ s_ m_ bl_ mt_ cd_ A ls F hnm hP hD hS hl
  obtain ⟨hx, hb, hml, hown, hts, hK, hX, hA, hrt_, hlocks⟩ := id F
  have hl : lv_has ls 3 [(0, .int (nI k)), (1, .int (nI n)), (2, .null)] := hl
  refine lv_iload_n hx hb dJ3_checkIndex_8e157_0 rfl (lv_at hl 0 rfl) ?_
  refine zlt (tgt := 9) hx hb dJ3_checkIndex_8e157_1 (by decide) (by omega) ?_
  refine lv_iload_n hx hb dJ3_checkIndex_8e157_4 rfl (lv_at hl 0 rfl) ?_
  refine lv_iload_n hx hb dJ3_checkIndex_8e157_5 rfl (lv_at hl 1 rfl) ?_
  refine xlt (tgt := 16) hx hb dJ3_checkIndex_8e157_6 (by decide) (by omega) (by omega) (fun c6 => ?_) (fun c6 => ?_)
  · skip
    refine lv_iload_n hx hb dJ3_checkIndex_8e157_16 rfl (lv_at hl 0 rfl) ?_
    exact rtI F hP hD hS dJ3_checkIndex_8e157_17 (⟨rfl, rfl⟩)
  · skip
    exfalso; omega

theorem lkJ0_checkIndex_df160_1 : Cond.fieldLink RJ0 1053 "jdk/internal/util/Preconditions" "SIOOBE_FORMATTER" "Ljava/util/function/BiFunction;" ∈ wsJ0_checkIndex_df160 := List.mem_of_getElem? (i := 1) rfl
theorem kJ0_checkIndex_df160 : Cal yJ0_checkIndex_df160 wsJ0_checkIndex_df160 cJ0_checkIndex_df160 2 none 2 := ⟨⟨_, rfl⟩, by decide +kernel⟩
set_option maxHeartbeats 1000000 in
set_option maxRecDepth 100000 in
theorem c_J0_checkIndex_df160 (l : Launch) (g : EE) (k : Nat) (n : Nat) (hk : k < n) (hn : n < 1000) : CV l yJ0_checkIndex_df160 wsJ0_checkIndex_df160 ({ frames := 1, cells := 0, slots := 0, locals := 22 }) g [.int (nI k), .int (nI n)] [] (fun (wz : va_W) => wz = []) 0 0 := by
  refine ctV (cc := cJ0_checkIndex_df160) (maxL := 2) (ret := none) (by decide) rfl (Nat.le_of_ble_eq_true rfl) ?_
  intro p_ e_ s_ m_ bl_ mt_ cd_ A ls F hnm hP hD hS hl
  obtain ⟨hx, hb, hml, hown, hts, hK, hX, hA, hrt_, hlocks⟩ := id F
  have hl : lv_has ls 2 [(0, .int (nI k)), (1, .int (nI n))] := hl
  refine lv_iload_n hx hb dJ0_checkIndex_df160_0 rfl (lv_at hl 0 rfl) ?_
  refine lv_iload_n hx hb dJ0_checkIndex_df160_1 rfl (lv_at hl 1 rfl) ?_
  refine xsF F hS lkJ0_checkIndex_df160_1 dJ0_checkIndex_df160_2 (fun v_ hv_ => ?_)
  rcases hv_ with rfl | ⟨f_, rfl⟩
  · refine cSI (As := [.int (nI k), .int (nI n), .null]) (rest := []) F (c_J3_checkIndex_8e157n l g k n (hk) (hn)) kJ3_checkIndex_8e157 gJ0_checkIndex_df160_J3_checkIndex_8e157 rfl rfl ⟨Nat.le_of_ble_eq_true rfl, Nat.le_of_ble_eq_true rfl⟩ hP hD hS [] [] rfl rfl hl.1 rfl rfl (Nat.le_of_ble_eq_true rfl) dJ0_checkIndex_df160_5 ⟨Nat.le_of_ble_eq_true rfl, Nat.le_of_ble_eq_true rfl⟩ (fun rz w1 H locs hpo hP hD hS => ?_)
    obtain ⟨rfl, rfl⟩ := hpo
    obtain ⟨hP, hD⟩ := nx (ws' := []) hP hD [] (ndB_ok _ rfl) rfl
    refine lv_pop hx hb dJ0_checkIndex_df160_8 rfl ?_
    exact rtV F hP hD hS dJ0_checkIndex_df160_9 (rfl)
  · refine cSI (As := [.int (nI k), .int (nI n), .ref f_]) (rest := []) F (c_J3_checkIndex_8e157 l g k n f_ (hk) (hn)) kJ3_checkIndex_8e157 gJ0_checkIndex_df160_J3_checkIndex_8e157 rfl rfl ⟨Nat.le_of_ble_eq_true rfl, Nat.le_of_ble_eq_true rfl⟩ hP hD hS [] [] rfl rfl hl.1 rfl rfl (Nat.le_of_ble_eq_true rfl) dJ0_checkIndex_df160_5 ⟨Nat.le_of_ble_eq_true rfl, Nat.le_of_ble_eq_true rfl⟩ (fun rz w1 H locs hpo hP hD hS => ?_)
    obtain ⟨rfl, rfl⟩ := hpo
    obtain ⟨hP, hD⟩ := nx (ws' := []) hP hD [] (ndB_ok _ rfl) rfl
    refine lv_pop hx hb dJ0_checkIndex_df160_8 rfl ?_
    exact rtV F hP hD hS dJ0_checkIndex_df160_9 (rfl)

theorem kJ1_charAt_3b067 : Cal yJ1_charAt_3b067 wsJ1_charAt_3b067 cJ1_charAt_3b067 2 (some .char) 2 := ⟨⟨_, rfl⟩, by decide +kernel⟩
set_option maxHeartbeats 1000000 in
set_option maxRecDepth 100000 in
theorem c_J1_charAt_3b067 (l : Launch) (g : EE) (i : Nat) (k : Nat) (hi : i < 9) (hk : k < ln i) : CI l yJ1_charAt_3b067 wsJ1_charAt_3b067 ({ frames := 2, cells := 0, slots := 0, locals := 43 }) g [.ref (eV g i), .int (nI k)] [] (fun (rz : Int32) (wz : va_W) => rz = (nI (fb i k)) ∧ wz = []) 0 0 := by
  refine ctI (cc := cJ1_charAt_3b067) (maxL := 2) (ret := (some .char)) (by decide) rfl (Nat.le_of_ble_eq_true rfl) ?_
  intro p_ e_ s_ m_ bl_ mt_ cd_ A ls F hnm hP hD hS hl
  obtain ⟨hx, hb, hml, hown, hts, hK, hX, hA, hrt_, hlocks⟩ := id F
  have hl : lv_has ls 2 [(0, .ref (eV g i)), (1, .int (nI k))] := hl
  have hl6 := ln_b i hi
  have hfb := fb_b i hi k (by omega)
  refine lv_iload_n hx hb dJ1_charAt_3b067_0 rfl (lv_at hl 1 rfl) ?_
  refine lv_aload_n hx hb dJ1_charAt_3b067_1 rfl (lv_at hl 0 rfl) ?_
  refine xsL F hS (i := i) (by omega) dJ1_charAt_3b067_2 ?_
  refine cSV (As := [.int (nI k), .int (nI (ln i))]) (rest := []) F (c_J0_checkIndex_df160 l g k (ln i) (hk) (by omega)) kJ0_checkIndex_df160 gJ1_charAt_3b067_J0_checkIndex_df160 rfl rfl ⟨Nat.le_of_ble_eq_true rfl, Nat.le_of_ble_eq_true rfl⟩ hP hD hS [] [] rfl rfl hl.1 rfl rfl (Nat.le_of_ble_eq_true rfl) dJ1_charAt_3b067_3 ⟨Nat.le_of_ble_eq_true rfl, Nat.le_of_ble_eq_true rfl⟩ (fun w1 H locs hpo hP hD hS => ?_)
  subst hpo
  obtain ⟨hP, hD⟩ := nx (ws' := []) hP hD [] (ndB_ok _ rfl) rfl
  refine lv_aload_n hx hb dJ1_charAt_3b067_6 rfl (lv_at hl 0 rfl) ?_
  refine lv_iload_n hx hb dJ1_charAt_3b067_7 rfl (lv_at hl 1 rfl) ?_
  refine xsB F hS (i := i) (by omega) (by omega) dJ1_charAt_3b067_8 ?_
  refine lv_sipush (v := (nI 255)) hx hb dJ1_charAt_3b067_9 (by decide) ?_
  refine lv_iand hx hb dJ1_charAt_3b067_12 ?_
  refine sti (show (((bytS.getD i []).getD k 0) &&& (nI 255)) = nI (fb i k) from fb_and i hi k (by omega)) ?_
  refine lv_i2c (v := nI (fb i k)) hx hb dJ1_charAt_3b067_13 (i2c_d _ (by omega)) ?_
  exact rtC F hP hD hS dJ1_charAt_3b067_14 (char_n (by omega)) (⟨rfl, rfl⟩)

theorem lkJ0_charAt_5068e_1 : Cond.fieldLink RJ0 9 "java/lang/String" "value" "[B" ∈ wsJ0_charAt_5068e := List.mem_of_getElem? (i := 1) rfl
theorem kJ0_charAt_5068e : Cal yJ0_charAt_5068e wsJ0_charAt_5068e cJ0_charAt_5068e 2 (some .char) 1 := ⟨⟨_, rfl⟩, by decide +kernel⟩
set_option maxHeartbeats 1000000 in
set_option maxRecDepth 100000 in
theorem c_J0_charAt_5068e (l : Launch) (g : EE) (i : Nat) (k : Nat) (hi : i < 9) (hk : k < ln i) : CI l yJ0_charAt_5068e wsJ0_charAt_5068e ({ frames := 3, cells := 0, slots := 0, locals := 64 }) g [.ref (eK g i), .int (nI k)] [] (fun (rz : Int32) (wz : va_W) => rz = (nI (fb i k)) ∧ wz = []) 0 0 := by
  refine ctI (cc := cJ0_charAt_5068e) (maxL := 2) (ret := (some .char)) (by decide) rfl (Nat.le_of_ble_eq_true rfl) ?_
  intro p_ e_ s_ m_ bl_ mt_ cd_ A ls F hnm hP hD hS hl
  obtain ⟨hx, hb, hml, hown, hts, hK, hX, hA, hrt_, hlocks⟩ := id F
  have hl : lv_has ls 2 [(0, .ref (eK g i)), (1, .int (nI k))] := hl
  have hl6 := ln_b i hi
  have hfb := fb_b i hi k (by omega)
  refine lv_aload_n hx hb dJ0_charAt_5068e_0 rfl (lv_at hl 0 rfl) ?_
  refine cKI (As := []) (rest := []) F (i := i) (c_J0_isLatin1_aae02 l g i (hi)) kJ0_isLatin1_aae02 rfl gJ0_charAt_5068e_J0_isLatin1_aae02 rfl rfl ⟨Nat.le_of_ble_eq_true rfl, Nat.le_of_ble_eq_true rfl⟩ hP hD hS [] [] rfl rfl (by omega) hl.1 rfl rfl (Nat.le_of_ble_eq_true rfl) dJ0_charAt_5068e_1 ⟨Nat.le_of_ble_eq_true rfl, Nat.le_of_ble_eq_true rfl⟩ (fun rz w1 H locs hpo hP hD hS => ?_)
  obtain ⟨rfl, rfl⟩ := hpo
  obtain ⟨hP, hD⟩ := nx (ws' := []) hP hD [] (ndB_ok _ rfl) rfl
  refine zeq (tgt := 16) hx hb dJ0_charAt_5068e_4 (by decide) (by omega) (fun c => absurd c (by decide)) (fun c => ?_)
  refine lv_aload_n hx hb dJ0_charAt_5068e_7 rfl (lv_at hl 0 rfl) ?_
  refine xsV F hS (i := i) (by omega) lkJ0_charAt_5068e_1 dJ0_charAt_5068e_8 ?_
  refine lv_iload_n hx hb dJ0_charAt_5068e_11 rfl (lv_at hl 1 rfl) ?_
  refine cSI (As := [.ref (eV g i), .int (nI k)]) (rest := []) F (c_J1_charAt_3b067 l g i k (hi) (hk)) kJ1_charAt_3b067 gJ0_charAt_5068e_J1_charAt_3b067 rfl rfl ⟨Nat.le_of_ble_eq_true rfl, Nat.le_of_ble_eq_true rfl⟩ hP hD hS [] [] rfl rfl hl.1 rfl rfl (Nat.le_of_ble_eq_true rfl) dJ0_charAt_5068e_12 ⟨Nat.le_of_ble_eq_true rfl, Nat.le_of_ble_eq_true rfl⟩ (fun rz w1 H locs hpo hP hD hS => ?_)
  obtain ⟨rfl, rfl⟩ := hpo
  obtain ⟨hP, hD⟩ := nx (ws' := []) hP hD [] (ndB_ok _ rfl) rfl
  exact rtC F hP hD hS dJ0_charAt_5068e_15 (char_n (by omega)) (⟨rfl, rfl⟩)

theorem kJ1_canEncode_9a6ad : Cal yJ1_canEncode_9a6ad wsJ1_canEncode_9a6ad cJ1_canEncode_9a6ad 1 (some .boolean) 1 := ⟨⟨_, rfl⟩, by decide +kernel⟩
set_option maxHeartbeats 1000000 in
set_option maxRecDepth 100000 in
theorem c_J1_canEncode_9a6ad (l : Launch) (g : EE) (c_ : Nat) (hc : c_ < 256) : CI l yJ1_canEncode_9a6ad wsJ1_canEncode_9a6ad ({ frames := 0, cells := 0, slots := 0, locals := 0 }) g [.int (nI c_)] [] (fun (rz : Int32) (wz : va_W) => rz = (nI 1) ∧ wz = []) 0 0 := by
  refine ctI (cc := cJ1_canEncode_9a6ad) (maxL := 1) (ret := (some .boolean)) (by decide) rfl (Nat.le_of_ble_eq_true rfl) ?_
  intro p_ e_ s_ m_ bl_ mt_ cd_ A ls F hnm hP hD hS hl
  obtain ⟨hx, hb, hml, hown, hts, hK, hX, hA, hrt_, hlocks⟩ := id F
  have hl : lv_has ls 1 [(0, .int (nI c_))] := hl
  refine lv_iload_n hx hb dJ1_canEncode_9a6ad_0 rfl (lv_at hl 0 rfl) ?_
  refine zlt (tgt := 15) hx hb dJ1_canEncode_9a6ad_1 (by decide) (by omega) ?_
  refine lv_iload_n hx hb dJ1_canEncode_9a6ad_4 rfl (lv_at hl 0 rfl) ?_
  refine lv_sipush (v := (nI 255)) hx hb dJ1_canEncode_9a6ad_5 (by decide) ?_
  refine xgt (tgt := 15) hx hb dJ1_canEncode_9a6ad_8 (by decide) (by omega) (by omega) (fun c8 => ?_) (fun c8 => ?_)
  · skip
    refine lv_iconst (v := (nI 0)) hx hb dJ1_canEncode_9a6ad_15 (by decide) ?_
    exact rtZ F hP hD hS dJ1_canEncode_9a6ad_16 (rfl) (by first | (exfalso; omega) | exact ⟨rfl, rfl⟩)
  · skip
    refine lv_iconst (v := (nI 1)) hx hb dJ1_canEncode_9a6ad_11 (by decide) ?_
    refine lv_goto (tgt := 16) hx hb dJ1_canEncode_9a6ad_12 (by decide) ?_
    exact rtZ F hP hD hS dJ1_canEncode_9a6ad_16 (rfl) (by first | (exfalso; omega) | exact ⟨rfl, rfl⟩)

theorem kJ1_indexOfChar_4cfef : Cal yJ1_indexOfChar_4cfef wsJ1_indexOfChar_4cfef cJ1_indexOfChar_4cfef 6 (some .int) 4 := ⟨⟨_, rfl⟩, by decide +kernel⟩
set_option maxHeartbeats 1000000 in
set_option maxRecDepth 100000 in
theorem c_J1_indexOfChar_4cfef (l : Launch) (g : EE) (i : Nat) (c_ : Nat) (hi : i < 9) (hc : c_ < 256) : CI l yJ1_indexOfChar_4cfef wsJ1_indexOfChar_4cfef ({ frames := 0, cells := 0, slots := 0, locals := 0 }) g [.ref (eV g i), .int (nI c_), .int (nI 0), .int (nI (ln i))] [] (fun (rz : Int32) (wz : va_W) => rz = (ixJ (fb i) c_ (ln i)) ∧ wz = []) 0 0 := by
  refine ctI (cc := cJ1_indexOfChar_4cfef) (maxL := 6) (ret := (some .int)) (by decide) rfl (Nat.le_of_ble_eq_true rfl) ?_
  intro p_ e_ s_ m_ bl_ mt_ cd_ A ls F hnm hP hD hS hl
  obtain ⟨hx, hb, hml, hown, hts, hK, hX, hA, hrt_, hlocks⟩ := id F
  have hl : lv_has ls 6 [(0, .ref (eV g i)), (1, .int (nI c_)), (2, .int (nI 0)), (3, .int (nI (ln i)))] := hl
  have hl6 := ln_b i hi
  refine lv_iload_n hx hb dJ1_indexOfChar_4cfef_0 rfl (lv_at hl 1 rfl) ?_
  refine lv_i2b hx hb dJ1_indexOfChar_4cfef_1 rfl ?_
  refine lv_istore (lv' := [(4, .int ((nI c_).toInt8.toInt32)), (0, .ref (eV g i)), (1, .int (nI c_)), (2, .int (nI 0)), (3, .int (nI (ln i)))]) hx hb dJ1_indexOfChar_4cfef_2 hl (by decide) rfl (fun ls hl => ?_)
  refine lv_iload_n hx hb dJ1_indexOfChar_4cfef_4 rfl (lv_at hl 3 rfl) ?_
  refine lv_istore (lv' := [(5, .int (nI 0)), (4, .int ((nI c_).toInt8.toInt32)), (0, .ref (eV g i)), (1, .int (nI c_)), (2, .int (nI 0)), (3, .int (nI (ln i)))]) hx hb dJ1_indexOfChar_4cfef_5 hl (by decide) rfl (fun ls hl => ?_)
  refine xlo (σ := Nat) 6 (fun (k : Nat) => [(0, .ref (eV g i)), (1, .int (nI c_)), (2, .int (nI 0)), (3, .int (nI (ln i))), (4, .int ((nI c_).toInt8.toInt32)), (5, .int (nI k))]) (fun (k : Nat) => []) (fun (k : Nat) => ixN (fb i) c_ (ln i) 0 = ixN (fb i) c_ (ln i - k) k ∧ k ≤ ln i) (fun (k : Nat) => ln i - k) (fun xz_ hI ih7 H locs ls hP hD hS hl => ?_) 0 (show ixN (fb i) c_ (ln i) 0 = ixN (fb i) c_ (ln i - 0) 0 ∧ 0 ≤ ln i from (⟨rfl, by omega⟩)) hP hD hS (lv_sub hl [2, 3, 4, 5, 1, 0] rfl)
  obtain ⟨k, rfl⟩ : ∃ z, z = xz_ := ⟨_, rfl⟩
  have hP : va_P (eD g) vwCl [] H := hP
  have hD : va_D A [] := hD
  have hl : lv_has ls 6 [(0, .ref (eV g i)), (1, .int (nI c_)), (2, .int (nI 0)), (3, .int (nI (ln i))), (4, .int ((nI c_).toInt8.toInt32)), (5, .int (nI k))] := hl
  have hI7 : ixN (fb i) c_ (ln i) 0 = ixN (fb i) c_ (ln i - k) k ∧ k ≤ ln i := hI
  clear hI
  obtain ⟨hix, hk⟩ := id hI7
  refine lv_iload hx hb dJ1_indexOfChar_4cfef_7 (lv_at hl 5 rfl) ?_
  refine lv_iload_n hx hb dJ1_indexOfChar_4cfef_9 rfl (lv_at hl 3 rfl) ?_
  refine xge (tgt := 31) hx hb dJ1_indexOfChar_4cfef_10 (by decide) (by omega) (by omega) (fun c10 => ?_) (fun c10 => ?_)
  · skip
    refine lv_iconst (v := (-1)) hx hb dJ1_indexOfChar_4cfef_31 (by decide) ?_
    exact rtI F hP hD hS dJ1_indexOfChar_4cfef_32 (⟨by unfold ixJ; rw [hix, ix_end (by omega), if_neg (by omega)], rfl⟩)
  · skip
    refine lv_aload_n hx hb dJ1_indexOfChar_4cfef_13 rfl (lv_at hl 0 rfl) ?_
    refine lv_iload hx hb dJ1_indexOfChar_4cfef_14 (lv_at hl 5 rfl) ?_
    refine xsB F hS (i := i) (by omega) (by omega) dJ1_indexOfChar_4cfef_16 ?_
    refine lv_iload hx hb dJ1_indexOfChar_4cfef_17 (lv_at hl 4 rfl) ?_
    refine lv_icmp_ne (tgt := 25) hx hb dJ1_indexOfChar_4cfef_19 (by decide) (fun c19 => ?_) (fun c19 => ?_)
    · skip
      refine lv_iinc (v := (nI (k + 1))) (lv' := [(5, .int (nI (k + 1))), (0, .ref (eV g i)), (1, .int (nI c_)), (2, .int (nI 0)), (3, .int (nI (ln i))), (4, .int ((nI c_).toInt8.toInt32))]) hx hb dJ1_indexOfChar_4cfef_25 hl (k := 5) rfl (iincP k 1) (by decide) rfl (fun ls hl => ?_)
      refine lv_goto (tgt := 7) hx hb dJ1_indexOfChar_4cfef_28 (by decide) ?_
      exact ih7 (k + 1) (show ixN (fb i) c_ (ln i) 0 = ixN (fb i) c_ (ln i - (k + 1)) (k + 1) ∧ (k + 1) ≤ ln i from (⟨hix.trans (ix_no (by omega) (fun q => c19 ((byte_eq hi (by omega) hc).mpr q))), by omega⟩)) (show ln i - (k + 1) < ln i - k from (by omega)) _ _ _ hP hD hS (lv_sub hl [1, 2, 3, 4, 5, 0] rfl)
    · skip
      refine lv_iload hx hb dJ1_indexOfChar_4cfef_22 (lv_at hl 5 rfl) ?_
      exact rtI F hP hD hS dJ1_indexOfChar_4cfef_24 (⟨by unfold ixJ; rw [hix, ix_yes (by omega) ((byte_eq hi (by omega) hc).mp c19), if_pos (by omega)], rfl⟩)

theorem lkJ1_indexOf_4cfef_2 : Cond.static Lib.Math.max.name ∈ wsJ1_indexOf_4cfef := List.mem_of_getElem? (i := 2) rfl
theorem lkJ1_indexOf_4cfef_3 : Cond.initialized "java/lang/Math" ∈ wsJ1_indexOf_4cfef := List.mem_of_getElem? (i := 3) rfl
theorem lkJ1_indexOf_4cfef_4 : Cond.code Lib.Math.max.name Lib.Math.max.code 2 (some .int) ∈ wsJ1_indexOf_4cfef := List.mem_of_getElem? (i := 4) rfl
theorem lkJ1_indexOf_4cfef_1 : Cond.methodLink RJ1 92 Lib.Math.max.name ∈ wsJ1_indexOf_4cfef := List.mem_of_getElem? (i := 1) rfl
theorem lkJ1_indexOf_4cfef_6 : Cond.static Lib.Math.min.name ∈ wsJ1_indexOf_4cfef := List.mem_of_getElem? (i := 6) rfl
theorem lkJ1_indexOf_4cfef_7 : Cond.code Lib.Math.min.name Lib.Math.min.code 2 (some .int) ∈ wsJ1_indexOf_4cfef := List.mem_of_getElem? (i := 7) rfl
theorem lkJ1_indexOf_4cfef_5 : Cond.methodLink RJ1 38 Lib.Math.min.name ∈ wsJ1_indexOf_4cfef := List.mem_of_getElem? (i := 5) rfl
theorem kJ1_indexOf_4cfef : Cal yJ1_indexOf_4cfef wsJ1_indexOf_4cfef cJ1_indexOf_4cfef 4 (some .int) 4 := ⟨⟨_, rfl⟩, by decide +kernel⟩
set_option maxHeartbeats 1000000 in
set_option maxRecDepth 100000 in
theorem c_J1_indexOf_4cfef (l : Launch) (g : EE) (i : Nat) (c_ : Nat) (hi : i < 9) (hc : c_ < 256) : CI l yJ1_indexOf_4cfef wsJ1_indexOf_4cfef ({ frames := 1, cells := 0, slots := 0, locals := 25 }) g [.ref (eV g i), .int (nI c_), .int (nI 0), .int (nI (ln i))] [] (fun (rz : Int32) (wz : va_W) => rz = (ixJ (fb i) c_ (ln i)) ∧ wz = []) 0 0 := by
  refine ctI (cc := cJ1_indexOf_4cfef) (maxL := 4) (ret := (some .int)) (by decide) rfl (Nat.le_of_ble_eq_true rfl) ?_
  intro p_ e_ s_ m_ bl_ mt_ cd_ A ls F hnm hP hD hS hl
  obtain ⟨hx, hb, hml, hown, hts, hK, hX, hA, hrt_, hlocks⟩ := id F
  have hl : lv_has ls 4 [(0, .ref (eV g i)), (1, .int (nI c_)), (2, .int (nI 0)), (3, .int (nI (ln i)))] := hl
  have hl6 := ln_b i hi
  refine lv_iload_n hx hb dJ1_indexOf_4cfef_0 rfl (lv_at hl 1 rfl) ?_
  refine cSI (As := [.int (nI c_)]) (rest := []) F (c_J1_canEncode_9a6ad l g c_ (hc)) kJ1_canEncode_9a6ad gJ1_indexOf_4cfef_J1_canEncode_9a6ad rfl rfl ⟨Nat.le_of_ble_eq_true rfl, Nat.le_of_ble_eq_true rfl⟩ hP hD hS [] [] rfl rfl hl.1 rfl rfl (Nat.le_of_ble_eq_true rfl) dJ1_indexOf_4cfef_1 ⟨Nat.le_of_ble_eq_true rfl, Nat.le_of_ble_eq_true rfl⟩ (fun rz w1 H locs hpo hP hD hS => ?_)
  obtain ⟨rfl, rfl⟩ := hpo
  obtain ⟨hP, hD⟩ := nx (ws' := []) hP hD [] (ndB_ok _ rfl) rfl
  refine zne (tgt := 9) hx hb dJ1_indexOf_4cfef_4 (by decide) (by omega) (fun c => ?_) (fun c => absurd c (by decide))
  refine lv_iload_n hx hb dJ1_indexOf_4cfef_9 rfl (lv_at hl 2 rfl) ?_
  refine lv_iconst (v := (nI 0)) hx hb dJ1_indexOf_4cfef_10 (by decide) ?_
  refine xmax F hl.1 lkJ1_indexOf_4cfef_1 lkJ1_indexOf_4cfef_2 lkJ1_indexOf_4cfef_3 lkJ1_indexOf_4cfef_4 (Nat.le_of_ble_eq_true rfl) (Nat.le_of_ble_eq_true rfl) ⟨Nat.le_of_ble_eq_true rfl, Nat.le_of_ble_eq_true rfl⟩ (by omega) (by omega) dJ1_indexOf_4cfef_11 ?_
  refine sti (congrArg nI (show max 0 0 = 0 from rfl)) ?_
  refine lv_istore_n (lv' := [(2, .int (nI 0)), (0, .ref (eV g i)), (1, .int (nI c_)), (3, .int (nI (ln i)))]) hx hb dJ1_indexOf_4cfef_14 rfl hl (by decide) rfl (fun ls hl => ?_)
  refine lv_iload_n hx hb dJ1_indexOf_4cfef_15 rfl (lv_at hl 3 rfl) ?_
  refine lv_aload_n hx hb dJ1_indexOf_4cfef_16 rfl (lv_at hl 1 rfl) ?_
  refine xsL F hS (i := i) (by omega) dJ1_indexOf_4cfef_17 ?_
  refine xmin F hl.1 lkJ1_indexOf_4cfef_5 lkJ1_indexOf_4cfef_6 lkJ1_indexOf_4cfef_3 lkJ1_indexOf_4cfef_7 (Nat.le_of_ble_eq_true rfl) (Nat.le_of_ble_eq_true rfl) ⟨Nat.le_of_ble_eq_true rfl, Nat.le_of_ble_eq_true rfl⟩ (by omega) (by omega) dJ1_indexOf_4cfef_18 ?_
  refine sti (congrArg nI (show min (ln i) (ln i) = ln i from Nat.min_self _)) ?_
  refine lv_istore_n (lv' := [(3, .int (nI (ln i))), (2, .int (nI 0)), (0, .ref (eV g i)), (1, .int (nI c_))]) hx hb dJ1_indexOf_4cfef_21 rfl hl (by decide) rfl (fun ls hl => ?_)
  refine lv_iload_n hx hb dJ1_indexOf_4cfef_22 rfl (lv_at hl 1 rfl) ?_
  refine lv_iload_n hx hb dJ1_indexOf_4cfef_23 rfl (lv_at hl 0 rfl) ?_
  refine xlt (tgt := 29) hx hb dJ1_indexOf_4cfef_24 (by decide) (by omega) (by omega) (fun c24 => ?_) (fun c24 => ?_)
  · skip
    refine lv_aload_n hx hb dJ1_indexOf_4cfef_29 rfl (lv_at hl 2 rfl) ?_
    refine lv_iload_n hx hb dJ1_indexOf_4cfef_30 rfl (lv_at hl 3 rfl) ?_
    refine lv_iload_n hx hb dJ1_indexOf_4cfef_31 rfl (lv_at hl 1 rfl) ?_
    refine lv_iload_n hx hb dJ1_indexOf_4cfef_32 rfl (lv_at hl 0 rfl) ?_
    refine cSI (As := [.ref (eV g i), .int (nI c_), .int (nI 0), .int (nI (ln i))]) (rest := []) F (c_J1_indexOfChar_4cfef l g i c_ (hi) (hc)) kJ1_indexOfChar_4cfef gJ1_indexOf_4cfef_J1_indexOfChar_4cfef rfl rfl ⟨Nat.le_of_ble_eq_true rfl, Nat.le_of_ble_eq_true rfl⟩ hP hD hS [] [] rfl rfl hl.1 rfl rfl (Nat.le_of_ble_eq_true rfl) dJ1_indexOf_4cfef_33 ⟨Nat.le_of_ble_eq_true rfl, Nat.le_of_ble_eq_true rfl⟩ (fun rz w1 H locs hpo hP hD hS => ?_)
    obtain ⟨rfl, rfl⟩ := hpo
    obtain ⟨hP, hD⟩ := nx (ws' := []) hP hD [] (ndB_ok _ rfl) rfl
    exact rtI F hP hD hS dJ1_indexOf_4cfef_36 (by first | exact ⟨rfl, rfl⟩ | exact ⟨by unfold ixJ; rw [if_neg (by have := ixN_le (fb i) c_ (ln i) 0; omega)], rfl⟩)
  · skip
    refine lv_iconst (v := (-1)) hx hb dJ1_indexOf_4cfef_27 (by decide) ?_
    exact rtI F hP hD hS dJ1_indexOf_4cfef_28 (by first | exact ⟨rfl, rfl⟩ | exact ⟨by unfold ixJ; rw [if_neg (by have := ixN_le (fb i) c_ (ln i) 0; omega)], rfl⟩)

theorem lkJ0_indexOf_7cf53_1 : Cond.fieldLink RJ0 9 "java/lang/String" "value" "[B" ∈ wsJ0_indexOf_7cf53 := List.mem_of_getElem? (i := 1) rfl
theorem kJ0_indexOf_7cf53 : Cal yJ0_indexOf_7cf53 wsJ0_indexOf_7cf53 cJ0_indexOf_7cf53 3 (some .int) 2 := ⟨⟨_, rfl⟩, by decide +kernel⟩
set_option maxHeartbeats 1000000 in
set_option maxRecDepth 100000 in
theorem c_J0_indexOf_7cf53 (l : Launch) (g : EE) (i : Nat) (c_ : Nat) (hi : i < 9) (hc : c_ < 256) : CI l yJ0_indexOf_7cf53 wsJ0_indexOf_7cf53 ({ frames := 2, cells := 0, slots := 0, locals := 48 }) g [.ref (eK g i), .int (nI c_), .int (nI 0)] [] (fun (rz : Int32) (wz : va_W) => rz = (ixJ (fb i) c_ (ln i)) ∧ wz = []) 0 0 := by
  refine ctI (cc := cJ0_indexOf_7cf53) (maxL := 3) (ret := (some .int)) (by decide) rfl (Nat.le_of_ble_eq_true rfl) ?_
  intro p_ e_ s_ m_ bl_ mt_ cd_ A ls F hnm hP hD hS hl
  obtain ⟨hx, hb, hml, hown, hts, hK, hX, hA, hrt_, hlocks⟩ := id F
  have hl : lv_has ls 3 [(0, .ref (eK g i)), (1, .int (nI c_)), (2, .int (nI 0))] := hl
  refine lv_aload_n hx hb dJ0_indexOf_7cf53_0 rfl (lv_at hl 0 rfl) ?_
  refine cKI (As := []) (rest := []) F (i := i) (c_J0_isLatin1_aae02 l g i (hi)) kJ0_isLatin1_aae02 rfl gJ0_indexOf_7cf53_J0_isLatin1_aae02 rfl rfl ⟨Nat.le_of_ble_eq_true rfl, Nat.le_of_ble_eq_true rfl⟩ hP hD hS [] [] rfl rfl (by omega) hl.1 rfl rfl (Nat.le_of_ble_eq_true rfl) dJ0_indexOf_7cf53_1 ⟨Nat.le_of_ble_eq_true rfl, Nat.le_of_ble_eq_true rfl⟩ (fun rz w1 H locs hpo hP hD hS => ?_)
  obtain ⟨rfl, rfl⟩ := hpo
  obtain ⟨hP, hD⟩ := nx (ws' := []) hP hD [] (ndB_ok _ rfl) rfl
  refine zeq (tgt := 23) hx hb dJ0_indexOf_7cf53_4 (by decide) (by omega) (fun c => absurd c (by decide)) (fun c => ?_)
  refine lv_aload_n hx hb dJ0_indexOf_7cf53_7 rfl (lv_at hl 0 rfl) ?_
  refine xsV F hS (i := i) (by omega) lkJ0_indexOf_7cf53_1 dJ0_indexOf_7cf53_8 ?_
  refine lv_iload_n hx hb dJ0_indexOf_7cf53_11 rfl (lv_at hl 1 rfl) ?_
  refine lv_iload_n hx hb dJ0_indexOf_7cf53_12 rfl (lv_at hl 2 rfl) ?_
  refine lv_aload_n hx hb dJ0_indexOf_7cf53_13 rfl (lv_at hl 0 rfl) ?_
  refine cKI (As := []) (rest := [.int (nI 0), .int (nI c_), .ref (eV g i)]) F (i := i) (c_J0_length_8abf5 l g i (hi)) kJ0_length_8abf5 rfl gJ0_indexOf_7cf53_J0_length_8abf5 rfl rfl ⟨Nat.le_of_ble_eq_true rfl, Nat.le_of_ble_eq_true rfl⟩ hP hD hS [] [] rfl rfl (by omega) hl.1 rfl rfl (Nat.le_of_ble_eq_true rfl) dJ0_indexOf_7cf53_14 ⟨Nat.le_of_ble_eq_true rfl, Nat.le_of_ble_eq_true rfl⟩ (fun rz w1 H locs hpo hP hD hS => ?_)
  obtain ⟨rfl, rfl⟩ := hpo
  obtain ⟨hP, hD⟩ := nx (ws' := []) hP hD [] (ndB_ok _ rfl) rfl
  refine cSI (As := [.ref (eV g i), .int (nI c_), .int (nI 0), .int (nI (ln i))]) (rest := []) F (c_J1_indexOf_4cfef l g i c_ (hi) (hc)) kJ1_indexOf_4cfef gJ0_indexOf_7cf53_J1_indexOf_4cfef rfl rfl ⟨Nat.le_of_ble_eq_true rfl, Nat.le_of_ble_eq_true rfl⟩ hP hD hS [] [] rfl rfl hl.1 rfl rfl (Nat.le_of_ble_eq_true rfl) dJ0_indexOf_7cf53_17 ⟨Nat.le_of_ble_eq_true rfl, Nat.le_of_ble_eq_true rfl⟩ (fun rz w1 H locs hpo hP hD hS => ?_)
  obtain ⟨rfl, rfl⟩ := hpo
  obtain ⟨hP, hD⟩ := nx (ws' := []) hP hD [] (ndB_ok _ rfl) rfl
  refine lv_goto (tgt := 36) hx hb dJ0_indexOf_7cf53_20 (by decide) ?_
  exact rtI F hP hD hS dJ0_indexOf_7cf53_36 (⟨rfl, rfl⟩)

theorem kJ0_indexOf_0f7a4 : Cal yJ0_indexOf_0f7a4 wsJ0_indexOf_0f7a4 cJ0_indexOf_0f7a4 2 (some .int) 1 := ⟨⟨_, rfl⟩, by decide +kernel⟩
set_option maxHeartbeats 1000000 in
set_option maxRecDepth 100000 in
theorem c_J0_indexOf_0f7a4 (l : Launch) (g : EE) (i : Nat) (c_ : Nat) (hi : i < 9) (hc : c_ < 256) : CI l yJ0_indexOf_0f7a4 wsJ0_indexOf_0f7a4 ({ frames := 3, cells := 0, slots := 0, locals := 70 }) g [.ref (eK g i), .int (nI c_)] [] (fun (rz : Int32) (wz : va_W) => rz = (ixJ (fb i) c_ (ln i)) ∧ wz = []) 0 0 := by
  refine ctI (cc := cJ0_indexOf_0f7a4) (maxL := 2) (ret := (some .int)) (by decide) rfl (Nat.le_of_ble_eq_true rfl) ?_
  intro p_ e_ s_ m_ bl_ mt_ cd_ A ls F hnm hP hD hS hl
  obtain ⟨hx, hb, hml, hown, hts, hK, hX, hA, hrt_, hlocks⟩ := id F
  have hl : lv_has ls 2 [(0, .ref (eK g i)), (1, .int (nI c_))] := hl
  refine lv_aload_n hx hb dJ0_indexOf_0f7a4_0 rfl (lv_at hl 0 rfl) ?_
  refine lv_iload_n hx hb dJ0_indexOf_0f7a4_1 rfl (lv_at hl 1 rfl) ?_
  refine lv_iconst (v := (nI 0)) hx hb dJ0_indexOf_0f7a4_2 (by decide) ?_
  refine cKI (As := [.int (nI c_), .int (nI 0)]) (rest := []) F (i := i) (c_J0_indexOf_7cf53 l g i c_ (hi) (hc)) kJ0_indexOf_7cf53 rfl gJ0_indexOf_0f7a4_J0_indexOf_7cf53 rfl rfl ⟨Nat.le_of_ble_eq_true rfl, Nat.le_of_ble_eq_true rfl⟩ hP hD hS [] [] rfl rfl (by omega) hl.1 rfl rfl (Nat.le_of_ble_eq_true rfl) dJ0_indexOf_0f7a4_3 ⟨Nat.le_of_ble_eq_true rfl, Nat.le_of_ble_eq_true rfl⟩ (fun rz w1 H locs hpo hP hD hS => ?_)
  obtain ⟨rfl, rfl⟩ := hpo
  obtain ⟨hP, hD⟩ := nx (ws' := []) hP hD [] (ndB_ok _ rfl) rfl
  exact rtI F hP hD hS dJ0_indexOf_0f7a4_6 (⟨rfl, rfl⟩)
