theorem lkX3_stripKindComes_3 : Cond.initialized RX4 ∈ wsX3_stripKindComes := List.mem_of_getElem? (i := 3) rfl
theorem lkX3_stripKindComes_2 : Cond.static yX4_isStripKind ∈ wsX3_stripKindComes := List.mem_of_getElem? (i := 2) rfl
theorem inX3_stripKindComes_X0 : ∀ w ∈ u_ws RX0 TX0 5, w ∈ wsX3_stripKindComes := fun _ h => (List.mem_cons_of_mem _ (List.mem_append_right _ h))
theorem lkX3_stripKindComes_1 : Cond.fieldLink RX3 108 "StripInFiveSteps$Shed" "stripKind" "I" ∈ wsX3_stripKindComes := List.mem_of_getElem? (i := 1) rfl
theorem kX3_stripKindComes : Cal yX3_stripKindComes wsX3_stripKindComes cX3_stripKindComes 3 (some .boolean) 3 := ⟨⟨_, rfl⟩, by decide +kernel⟩
set_option maxHeartbeats 1000000 in
set_option maxRecDepth 100000 in
theorem c_X3_stripKindComes (l : Launch) (g : EE) (h0 : Nat) (h1 : Nat) (h2 : Nat) (W : Nat → Nat) (B : Nat → Nat) (sk : Nat) (ek : Nat) (tr : Nat) (k : Nat) (v : Nat) (hk : k ≤ 3) (hv : v < 1000) : CI l yX3_stripKindComes wsX3_stripKindComes ({ frames := 1, cells := 0, slots := 0, locals := 22 }) g [.int (nI k), .int (nI v), .ref h0] [(h0, .inr (0, [.ref h1, .ref h2, .int (nI sk), .int (nI ek), .int (nI tr)])), (h1, .inl (eI g, 41, .inl (fun j => nI (W j)))), (h2, .inl (eI g, 5, .inl (fun j => nI (B j))))] (fun (rz : Int32) (wz : va_W) => rz = (nI (if leastN 1 ≤ v ∧ v ≤ greatN 1 then 1 else 0)) ∧ wz = [(h0, .inr (0, [.ref h1, .ref h2, .int (nI k), .int (nI ek), .int (nI tr)])), (h1, .inl (eI g, 41, .inl (fun j => nI (W j)))), (h2, .inl (eI g, 5, .inl (fun j => nI ((if leastN 1 ≤ v ∧ v ≤ greatN 1 then updN B 1 v else B) j))))]) 0 0 := by
  refine ctI (cc := cX3_stripKindComes) (maxL := 3) (ret := (some .boolean)) (by decide) rfl (Nat.le_of_ble_eq_true rfl) ?_
  intro p_ e_ s_ m_ bl_ mt_ cd_ A ls F hnm hP hD hS hl
  obtain ⟨hx, hb, hml, hown, hts, hK, hX, hA, hrt_, hlocks⟩ := id F
  have hl : lv_has ls 3 [(0, .int (nI k)), (1, .int (nI v)), (2, .ref h0)] := hl
  refine lv_iload_n hx hb dX3_stripKindComes_0 rfl (lv_at hl 0 rfl) ?_
  refine cTI (As := [.int (nI k)]) (rest := []) F (n_X4_isStripKind l g k (by omega)) kX4_isStripKind ggX3_stripKindComes_X4_isStripKind 10 rfl lkX3_stripKindComes_3 lkX3_stripKindComes_2 rfl rfl ⟨Nat.le_of_ble_eq_true rfl, Nat.le_of_ble_eq_true rfl⟩ hP hD hS [] [0, 1, 2] rfl rfl hl.1 rfl rfl (Nat.le_of_ble_eq_true rfl) dX3_stripKindComes_1 ⟨Nat.le_of_ble_eq_true rfl, Nat.le_of_ble_eq_true rfl⟩ (fun rz w1 H locs hpo hP hD hS => ?_)
  obtain ⟨rfl, rfl⟩ := hpo
  obtain ⟨hP, hD⟩ := nx (ws' := [(h0, .inr (0, [.ref h1, .ref h2, .int (nI sk), .int (nI ek), .int (nI tr)])), (h1, .inl (eI g, 41, .inl (fun j => nI (W j)))), (h2, .inl (eI g, 5, .inl (fun j => nI (B j))))]) hP hD [0, 1, 2] (ndB_ok _ rfl) rfl
  refine bqne (tgt := 9) hx hb dX3_stripKindComes_4 (by decide) (fun c4 => ?_) (fun c4 => ?_)
  · skip
    refine lv_aload_n hx hb dX3_stripKindComes_9 rfl (lv_at hl 2 rfl) ?_
    refine lv_iload_n hx hb dX3_stripKindComes_10 rfl (lv_at hl 0 rfl) ?_
    refine xput F hP hD hS inX3_stripKindComes_X0 tyX0 tyX0_ok nmX0 0 rfl rfl 2 (by decide) lkX3_stripKindComes_1 rfl rfl rfl (Nat.le_of_ble_eq_true rfl) dX3_stripKindComes_11 (fun H locs hP hD hS => ?_)
    have hP : va_P (eD g) vwCl [(h0, .inr (0, [.ref h1, .ref h2, .int (nI k), .int (nI ek), .int (nI tr)])), (h1, .inl (eI g, 41, .inl (fun j => nI (W j)))), (h2, .inl (eI g, 5, .inl (fun j => nI (B j))))] H := hP
    have hD : va_D A [(h0, .inr (0, [.ref h1, .ref h2, .int (nI k), .int (nI ek), .int (nI tr)])), (h1, .inl (eI g, 41, .inl (fun j => nI (W j)))), (h2, .inl (eI g, 5, .inl (fun j => nI (B j))))] := hD
    refine lv_aload_n hx hb dX3_stripKindComes_14 rfl (lv_at hl 2 rfl) ?_
    refine lv_iconst (v := (nI 1)) hx hb dX3_stripKindComes_15 (by decide) ?_
    refine lv_iload_n hx hb dX3_stripKindComes_16 rfl (lv_at hl 1 rfl) ?_
    refine cVI (As := [.int (nI 1), .int (nI v)]) (rest := []) F (c_X0_putNumber l g h0 h1 h2 W B k ek tr 1 v (by omega) (hv)) kX0_putNumber rfl gX3_stripKindComes_X0_putNumber rfl rfl ⟨Nat.le_of_ble_eq_true rfl, Nat.le_of_ble_eq_true rfl⟩ hP hD hS [0, 1, 2] [] rfl rfl 0 rfl rfl hl.1 rfl rfl (Nat.le_of_ble_eq_true rfl) dX3_stripKindComes_17 ⟨Nat.le_of_ble_eq_true rfl, Nat.le_of_ble_eq_true rfl⟩ (fun rz w1 H locs hpo hP hD hS => ?_)
    obtain ⟨rfl, rfl⟩ := hpo
    obtain ⟨hP, hD⟩ := nx (ws' := [(h0, .inr (0, [.ref h1, .ref h2, .int (nI k), .int (nI ek), .int (nI tr)])), (h1, .inl (eI g, 41, .inl (fun j => nI (W j)))), (h2, .inl (eI g, 5, .inl (fun j => nI ((if leastN 1 ≤ v ∧ v ≤ greatN 1 then updN B 1 v else B) j))))]) hP hD [0, 1, 2] (ndB_ok _ rfl) rfl
    refine rtZ F hP hD hS dX3_stripKindComes_20 (by split <;> rfl) (by first | (exfalso; omega) | exact ⟨rfl, rfl⟩)
  · skip
    refine lv_iconst (v := (nI 0)) hx hb dX3_stripKindComes_7 (by decide) ?_
    exact rtZ F hP hD hS dX3_stripKindComes_8 (rfl) (by first | (exfalso; omega) | exact ⟨rfl, rfl⟩)

theorem lkX3_eyeKindComes_3 : Cond.initialized RX4 ∈ wsX3_eyeKindComes := List.mem_of_getElem? (i := 3) rfl
theorem lkX3_eyeKindComes_2 : Cond.static yX4_isEyeKind ∈ wsX3_eyeKindComes := List.mem_of_getElem? (i := 2) rfl
theorem inX3_eyeKindComes_X0 : ∀ w ∈ u_ws RX0 TX0 5, w ∈ wsX3_eyeKindComes := fun _ h => (List.mem_cons_of_mem _ (List.mem_append_right _ h))
theorem lkX3_eyeKindComes_1 : Cond.fieldLink RX3 114 "StripInFiveSteps$Shed" "eyeKind" "I" ∈ wsX3_eyeKindComes := List.mem_of_getElem? (i := 1) rfl
theorem kX3_eyeKindComes : Cal yX3_eyeKindComes wsX3_eyeKindComes cX3_eyeKindComes 3 (some .boolean) 3 := ⟨⟨_, rfl⟩, by decide +kernel⟩
set_option maxHeartbeats 1000000 in
set_option maxRecDepth 100000 in
theorem c_X3_eyeKindComes (l : Launch) (g : EE) (h0 : Nat) (h1 : Nat) (h2 : Nat) (W : Nat → Nat) (B : Nat → Nat) (sk : Nat) (ek : Nat) (tr : Nat) (k : Nat) (v : Nat) (hk : k ≤ 4) (hv : v < 1000) : CI l yX3_eyeKindComes wsX3_eyeKindComes ({ frames := 1, cells := 0, slots := 0, locals := 22 }) g [.int (nI k), .int (nI v), .ref h0] [(h0, .inr (0, [.ref h1, .ref h2, .int (nI sk), .int (nI ek), .int (nI tr)])), (h1, .inl (eI g, 41, .inl (fun j => nI (W j)))), (h2, .inl (eI g, 5, .inl (fun j => nI (B j))))] (fun (rz : Int32) (wz : va_W) => rz = (nI (if leastN 2 ≤ v ∧ v ≤ greatN 2 then 1 else 0)) ∧ wz = [(h0, .inr (0, [.ref h1, .ref h2, .int (nI sk), .int (nI k), .int (nI tr)])), (h1, .inl (eI g, 41, .inl (fun j => nI (W j)))), (h2, .inl (eI g, 5, .inl (fun j => nI ((if leastN 2 ≤ v ∧ v ≤ greatN 2 then updN B 2 v else B) j))))]) 0 0 := by
  refine ctI (cc := cX3_eyeKindComes) (maxL := 3) (ret := (some .boolean)) (by decide) rfl (Nat.le_of_ble_eq_true rfl) ?_
  intro p_ e_ s_ m_ bl_ mt_ cd_ A ls F hnm hP hD hS hl
  obtain ⟨hx, hb, hml, hown, hts, hK, hX, hA, hrt_, hlocks⟩ := id F
  have hl : lv_has ls 3 [(0, .int (nI k)), (1, .int (nI v)), (2, .ref h0)] := hl
  refine lv_iload_n hx hb dX3_eyeKindComes_0 rfl (lv_at hl 0 rfl) ?_
  refine cTI (As := [.int (nI k)]) (rest := []) F (n_X4_isEyeKind l g k (by omega)) kX4_isEyeKind ggX3_eyeKindComes_X4_isEyeKind 11 rfl lkX3_eyeKindComes_3 lkX3_eyeKindComes_2 rfl rfl ⟨Nat.le_of_ble_eq_true rfl, Nat.le_of_ble_eq_true rfl⟩ hP hD hS [] [0, 1, 2] rfl rfl hl.1 rfl rfl (Nat.le_of_ble_eq_true rfl) dX3_eyeKindComes_1 ⟨Nat.le_of_ble_eq_true rfl, Nat.le_of_ble_eq_true rfl⟩ (fun rz w1 H locs hpo hP hD hS => ?_)
  obtain ⟨rfl, rfl⟩ := hpo
  obtain ⟨hP, hD⟩ := nx (ws' := [(h0, .inr (0, [.ref h1, .ref h2, .int (nI sk), .int (nI ek), .int (nI tr)])), (h1, .inl (eI g, 41, .inl (fun j => nI (W j)))), (h2, .inl (eI g, 5, .inl (fun j => nI (B j))))]) hP hD [0, 1, 2] (ndB_ok _ rfl) rfl
  refine bqne (tgt := 9) hx hb dX3_eyeKindComes_4 (by decide) (fun c4 => ?_) (fun c4 => ?_)
  · skip
    refine lv_aload_n hx hb dX3_eyeKindComes_9 rfl (lv_at hl 2 rfl) ?_
    refine lv_iload_n hx hb dX3_eyeKindComes_10 rfl (lv_at hl 0 rfl) ?_
    refine xput F hP hD hS inX3_eyeKindComes_X0 tyX0 tyX0_ok nmX0 0 rfl rfl 3 (by decide) lkX3_eyeKindComes_1 rfl rfl rfl (Nat.le_of_ble_eq_true rfl) dX3_eyeKindComes_11 (fun H locs hP hD hS => ?_)
    have hP : va_P (eD g) vwCl [(h0, .inr (0, [.ref h1, .ref h2, .int (nI sk), .int (nI k), .int (nI tr)])), (h1, .inl (eI g, 41, .inl (fun j => nI (W j)))), (h2, .inl (eI g, 5, .inl (fun j => nI (B j))))] H := hP
    have hD : va_D A [(h0, .inr (0, [.ref h1, .ref h2, .int (nI sk), .int (nI k), .int (nI tr)])), (h1, .inl (eI g, 41, .inl (fun j => nI (W j)))), (h2, .inl (eI g, 5, .inl (fun j => nI (B j))))] := hD
    refine lv_aload_n hx hb dX3_eyeKindComes_14 rfl (lv_at hl 2 rfl) ?_
    refine lv_iconst (v := (nI 2)) hx hb dX3_eyeKindComes_15 (by decide) ?_
    refine lv_iload_n hx hb dX3_eyeKindComes_16 rfl (lv_at hl 1 rfl) ?_
    refine cVI (As := [.int (nI 2), .int (nI v)]) (rest := []) F (c_X0_putNumber l g h0 h1 h2 W B sk k tr 2 v (by omega) (hv)) kX0_putNumber rfl gX3_eyeKindComes_X0_putNumber rfl rfl ⟨Nat.le_of_ble_eq_true rfl, Nat.le_of_ble_eq_true rfl⟩ hP hD hS [0, 1, 2] [] rfl rfl 0 rfl rfl hl.1 rfl rfl (Nat.le_of_ble_eq_true rfl) dX3_eyeKindComes_17 ⟨Nat.le_of_ble_eq_true rfl, Nat.le_of_ble_eq_true rfl⟩ (fun rz w1 H locs hpo hP hD hS => ?_)
    obtain ⟨rfl, rfl⟩ := hpo
    obtain ⟨hP, hD⟩ := nx (ws' := [(h0, .inr (0, [.ref h1, .ref h2, .int (nI sk), .int (nI k), .int (nI tr)])), (h1, .inl (eI g, 41, .inl (fun j => nI (W j)))), (h2, .inl (eI g, 5, .inl (fun j => nI ((if leastN 2 ≤ v ∧ v ≤ greatN 2 then updN B 2 v else B) j))))]) hP hD [0, 1, 2] (ndB_ok _ rfl) rfl
    refine rtZ F hP hD hS dX3_eyeKindComes_20 (by split <;> rfl) (by first | (exfalso; omega) | exact ⟨rfl, rfl⟩)
  · skip
    refine lv_iconst (v := (nI 0)) hx hb dX3_eyeKindComes_7 (by decide) ?_
    exact rtZ F hP hD hS dX3_eyeKindComes_8 (rfl) (by first | (exfalso; omega) | exact ⟨rfl, rfl⟩)

theorem lkX3_toldStripComes_3 : Cond.initialized RX4 ∈ wsX3_toldStripComes := List.mem_of_getElem? (i := 3) rfl
theorem lkX3_toldStripComes_2 : Cond.static yX4_isSecond ∈ wsX3_toldStripComes := List.mem_of_getElem? (i := 2) rfl
theorem inX3_toldStripComes_X0 : ∀ w ∈ u_ws RX0 TX0 5, w ∈ wsX3_toldStripComes := fun _ h => (List.mem_cons_of_mem _ (List.mem_append_left _ (List.mem_append_right _ h)))
theorem lkX3_toldStripComes_1 : Cond.fieldLink RX3 120 "StripInFiveSteps$Shed" "tried" "I" ∈ wsX3_toldStripComes := List.mem_of_getElem? (i := 1) rfl
theorem kX3_toldStripComes : Cal yX3_toldStripComes wsX3_toldStripComes cX3_toldStripComes 6 (some .boolean) 4 := ⟨⟨_, rfl⟩, by decide +kernel⟩
set_option maxHeartbeats 1000000 in
set_option maxRecDepth 100000 in
theorem c_X3_toldStripComes (l : Launch) (g : EE) (h0 : Nat) (h1 : Nat) (h2 : Nat) (W : Nat → Nat) (B : Nat → Nat) (sk : Nat) (ek : Nat) (tr : Nat) (h3 : Nat) (h4 : Nat) (q : Nat → Nat) (n : Nat) (v : Nat) (k : Nat) (hW : ∀ j, W j ≤ 9) (hB : okB B) (hsk : sk ≤ 3) (hek : ek ≤ 4) (htr : tr ≤ 99) (hv : v < 1000) (hk : k < 1000) : CI l yX3_toldStripComes wsX3_toldStripComes ({ frames := 4, cells := 0, slots := 0, locals := 98 }) g [.int (nI v), .int (nI k), .ref h0, .ref h3] [(h0, .inr (0, [.ref h1, .ref h2, .int (nI sk), .int (nI ek), .int (nI tr)])), (h1, .inl (eI g, 41, .inl (fun j => nI (W j)))), (h2, .inl (eI g, 5, .inl (fun j => nI (B j)))), (h3, .inr (1, [.ref h4, .int (nI n)])), (h4, .inl (eI g, 7, .inl (fun j => nI (q j))))] (fun (rz : Int32) (wz : va_W) => ∃ q9 : Nat → Nat, ∃ n9 : Nat, rz = (nI (if (1 ≤ v ∧ v ≤ 40) ∧ tr < 99 ∧ cnS (prt (tlT B sk ek) (lpB W) v k) ≠ 0 then 1 else 0)) ∧ wz = [(h0, .inr (0, [.ref h1, .ref h2, .int (nI sk), .int (nI ek), .int (nI (if (1 ≤ v ∧ v ≤ 40) ∧ tr < 99 ∧ cnS (prt (tlT B sk ek) (lpB W) v k) ≠ 0 then tr + 1 else tr))])), (h1, .inl (eI g, 41, .inl (fun j => nI ((if (1 ≤ v ∧ v ≤ 40) ∧ tr < 99 ∧ cnS (prt (tlT B sk ek) (lpB W) v k) ≠ 0 then cutN W (prt (tlT B sk ek) (lpB W) v k) 40 else W) j)))), (h2, .inl (eI g, 5, .inl (fun j => nI (B j)))), (h3, .inr (1, [.ref h4, .int (nI n9)])), (h4, .inl (eI g, 7, .inl (fun j => nI (q9 j))))]) 0 0 := by
  refine ctI (cc := cX3_toldStripComes) (maxL := 6) (ret := (some .boolean)) (by decide) rfl (Nat.le_of_ble_eq_true rfl) ?_
  intro p_ e_ s_ m_ bl_ mt_ cd_ A ls F hnm hP hD hS hl
  obtain ⟨hx, hb, hml, hown, hts, hK, hX, hA, hrt_, hlocks⟩ := id F
  have hl : lv_has ls 6 [(0, .int (nI v)), (1, .int (nI k)), (2, .ref h0), (3, .ref h3)] := hl
  obtain ⟨hb0, hb1, hb2, hb3, hb4, hb5⟩ := okB_b hB
  refine lv_iload_n hx hb dX3_toldStripComes_0 rfl (lv_at hl 0 rfl) ?_
  refine cTI (As := [.int (nI v)]) (rest := []) F (n_X4_isSecond l g v (by omega)) kX4_isSecond ggX3_toldStripComes_X4_isSecond 12 rfl lkX3_toldStripComes_3 lkX3_toldStripComes_2 rfl rfl ⟨Nat.le_of_ble_eq_true rfl, Nat.le_of_ble_eq_true rfl⟩ hP hD hS [] [0, 1, 2, 3, 4] rfl rfl hl.1 rfl rfl (Nat.le_of_ble_eq_true rfl) dX3_toldStripComes_1 ⟨Nat.le_of_ble_eq_true rfl, Nat.le_of_ble_eq_true rfl⟩ (fun rz w1 H locs hpo hP hD hS => ?_)
  obtain ⟨rfl, rfl⟩ := hpo
  obtain ⟨hP, hD⟩ := nx (ws' := [(h0, .inr (0, [.ref h1, .ref h2, .int (nI sk), .int (nI ek), .int (nI tr)])), (h1, .inl (eI g, 41, .inl (fun j => nI (W j)))), (h2, .inl (eI g, 5, .inl (fun j => nI (B j)))), (h3, .inr (1, [.ref h4, .int (nI n)])), (h4, .inl (eI g, 7, .inl (fun j => nI (q j))))]) hP hD [0, 1, 2, 3, 4] (ndB_ok _ rfl) rfl
  refine bqeq (tgt := 16) hx hb dX3_toldStripComes_4 (by decide) (fun c4 => ?_) (fun c4 => ?_)
  · skip
    have hall : ¬ ((1 ≤ v ∧ v ≤ 40) ∧ tr < 99 ∧ cnS (prt (tlT B sk ek) (lpB W) v k) ≠ 0) := fun z => by exact c4 z.1
    refine lv_iconst (v := (nI 0)) hx hb dX3_toldStripComes_16 (by decide) ?_
    exact rtZ F hP hD hS dX3_toldStripComes_17 (rfl) (⟨_, _, by rw [if_neg hall], by rw [if_neg hall, if_neg hall]⟩)
  · skip
    refine lv_aload_n hx hb dX3_toldStripComes_7 rfl (lv_at hl 2 rfl) ?_
    refine xget F hP inX3_toldStripComes_X0 0 rfl rfl 4 (by decide) lkX3_toldStripComes_1 rfl dX3_toldStripComes_8 ?_
    refine lv_bipush (v := (nI 99)) hx hb dX3_toldStripComes_11 (by decide) ?_
    refine xlt (tgt := 18) hx hb dX3_toldStripComes_13 (by decide) (by omega) (by omega) (fun c13 => ?_) (fun c13 => ?_)
    · skip
      refine lv_aload_n hx hb dX3_toldStripComes_18 rfl (lv_at hl 2 rfl) ?_
      refine lv_aload_n hx hb dX3_toldStripComes_19 rfl (lv_at hl 3 rfl) ?_
      refine lv_iload_n hx hb dX3_toldStripComes_20 rfl (lv_at hl 0 rfl) ?_
      refine lv_iload_n hx hb dX3_toldStripComes_21 rfl (lv_at hl 1 rfl) ?_
      refine cVL (As := [.ref h3, .int (nI v), .int (nI k)]) (rest := []) F (c_X0_leftIfTold l g h0 h1 h2 W B sk ek tr h3 h4 q n v k (hW) (hB) (hsk) (hek) (by omega) (by omega)) kX0_leftIfTold rfl gX3_toldStripComes_X0_leftIfTold rfl rfl ⟨Nat.le_of_ble_eq_true rfl, Nat.le_of_ble_eq_true rfl⟩ hP hD hS [0, 1, 2, 3, 4] [] rfl rfl 0 rfl rfl hl.1 rfl rfl (Nat.le_of_ble_eq_true rfl) dX3_toldStripComes_22 ⟨Nat.le_of_ble_eq_true rfl, Nat.le_of_ble_eq_true rfl⟩ (fun rz w1 H locs hpo hP hD hS => ?_)
      obtain ⟨rfl, rfl⟩ := hpo
      obtain ⟨hP, hD⟩ := nx (ws' := [(h0, .inr (0, [.ref h1, .ref h2, .int (nI sk), .int (nI ek), .int (nI tr)])), (h1, .inl (eI g, 41, .inl (fun j => nI (W j)))), (h2, .inl (eI g, 5, .inl (fun j => nI (B j)))), (h3, .inr (1, [.ref h4, .int (nI (B 0))])), (h4, .inl (eI g, 7, .inl (fun j => nI ((layQ sk (B 0) (B 1) v q (B 0)) j))))]) hP hD [0, 1, 2, 3, 4] (ndB_ok _ rfl) rfl
      refine lv_lstore (lv' := [(4, .long (toldM W B sk ek v k)), (0, .int (nI v)), (1, .int (nI k)), (2, .ref h0), (3, .ref h3)]) hx hb dX3_toldStripComes_25 hl (by decide) rfl (fun ls hl => ?_)
      refine lv_lload hx hb dX3_toldStripComes_27 (lv_at hl 0 rfl) ?_
      refine lv_lconst (v := lN 0) hx hb dX3_toldStripComes_29 rfl ?_
      refine jne (tgt := 36) hx hb dX3_toldStripComes_30 dX3_toldStripComes_31 (by decide) (fun c31 => ?_) (fun c31 => ?_)
      · skip
        have hall : (1 ≤ v ∧ v ≤ 40) ∧ tr < 99 ∧ cnS (prt (tlT B sk ek) (lpB W) v k) ≠ 0 := ⟨c4, c13, fun z => c31 ((told0 W B sk ek v k).mpr z)⟩
        refine lv_aload_n hx hb dX3_toldStripComes_36 rfl (lv_at hl 3 rfl) ?_
        refine lv_lload hx hb dX3_toldStripComes_37 (lv_at hl 0 rfl) ?_
        refine cVV (As := [.long (toldM W B sk ek v k)]) (rest := []) F (c_X0_tryDownTo l g h0 h1 h2 W B sk ek tr (toldM W B sk ek v k) ) kX0_tryDownTo rfl gX3_toldStripComes_X0_tryDownTo rfl rfl ⟨Nat.le_of_ble_eq_true rfl, Nat.le_of_ble_eq_true rfl⟩ hP hD hS [0, 1, 2] [3, 4] rfl rfl 0 rfl rfl hl.1 rfl rfl (Nat.le_of_ble_eq_true rfl) dX3_toldStripComes_39 ⟨Nat.le_of_ble_eq_true rfl, Nat.le_of_ble_eq_true rfl⟩ (fun w1 H locs hpo hP hD hS => ?_)
        subst hpo
        obtain ⟨hP, hD⟩ := nx (ws' := [(h0, .inr (0, [.ref h1, .ref h2, .int (nI sk), .int (nI ek), .int (nI (tr + 1))])), (h1, .inl (eI g, 41, .inl (fun j => nI ((cutN W (bitL (toldM W B sk ek v k)) 40) j)))), (h2, .inl (eI g, 5, .inl (fun j => nI (B j)))), (h3, .inr (1, [.ref h4, .int (nI (B 0))])), (h4, .inl (eI g, 7, .inl (fun j => nI ((layQ sk (B 0) (B 1) v q (B 0)) j))))]) hP hD [2, 3, 4, 0, 1] (ndB_ok _ rfl) rfl
        refine lv_iconst (v := (nI 1)) hx hb dX3_toldStripComes_42 (by decide) ?_
        exact rtZ F hP hD hS dX3_toldStripComes_43 (rfl) (⟨_, _, by rw [if_pos hall], by rw [if_pos hall, if_pos hall, bitL_told]⟩)
      · skip
        have hall : ¬ ((1 ≤ v ∧ v ≤ 40) ∧ tr < 99 ∧ cnS (prt (tlT B sk ek) (lpB W) v k) ≠ 0) := fun z => z.2.2 ((told0 W B sk ek v k).mp c31)
        refine lv_iconst (v := (nI 0)) hx hb dX3_toldStripComes_34 (by decide) ?_
        exact rtZ F hP hD hS dX3_toldStripComes_35 (rfl) (⟨_, _, by rw [if_neg hall], by rw [if_neg hall, if_neg hall]⟩)
    · skip
      have hall : ¬ ((1 ≤ v ∧ v ≤ 40) ∧ tr < 99 ∧ cnS (prt (tlT B sk ek) (lpB W) v k) ≠ 0) := fun z => by omega
      refine lv_iconst (v := (nI 0)) hx hb dX3_toldStripComes_16 (by decide) ?_
      exact rtZ F hP hD hS dX3_toldStripComes_17 (rfl) (⟨_, _, by rw [if_neg hall], by rw [if_neg hall, if_neg hall]⟩)

theorem kX3_comes : Cal yX3_comes wsX3_comes cX3_comes 4 (some .boolean) 3 := ⟨⟨_, rfl⟩, by decide +kernel⟩
set_option maxHeartbeats 1000000 in
set_option maxRecDepth 100000 in
theorem c_X3_comes (l : Launch) (g : EE) (t0 : Nat) (t1 : Nat) (tn_ : Nat) (tx : Nat → Nat) (h0 : Nat) (h1 : Nat) (h2 : Nat) (W : Nat → Nat) (B : Nat → Nat) (sk : Nat) (ek : Nat) (tr : Nat) (h3 : Nat) (h4 : Nat) (q : Nat → Nat) (n : Nat) (p : Nat) (htn : tn_ ≤ 96) (htx : ∀ j, tx j < 256) (hW : ∀ j, W j ≤ 9) (hB : okB B) (hsk : sk ≤ 3) (hek : ek ≤ 4) (htr : tr ≤ 99) (hp : (stm tx tn_ p).2 = 1) : CI l yX3_comes wsX3_comes ({ frames := 5, cells := 0, slots := 0, locals := 123 }) g [.ref t0, .int (nI p), .ref h0, .ref h3] [(t0, .inr (3, [.ref t1, .int (nI tn_)])), (t1, .inl (eI g, 96, .inl (fun j => nI (tx j)))), (h0, .inr (0, [.ref h1, .ref h2, .int (nI sk), .int (nI ek), .int (nI tr)])), (h1, .inl (eI g, 41, .inl (fun j => nI (W j)))), (h2, .inl (eI g, 5, .inl (fun j => nI (B j)))), (h3, .inr (1, [.ref h4, .int (nI n)])), (h4, .inl (eI g, 7, .inl (fun j => nI (q j))))] (fun (rz : Int32) (wz : va_W) => ∃ W9 : Nat → Nat, ∃ B9 : Nat → Nat, ∃ sk9 : Nat, ∃ ek9 : Nat, ∃ tr9 : Nat, ∃ q9 : Nat → Nat, ∃ n9 : Nat, rz = (nI (if effB (cmb W B sk ek tr) (fmN (tx p)) (fdP tx p) = true then 1 else 0)) ∧ wz = [(t0, .inr (3, [.ref t1, .int (nI tn_)])), (t1, .inl (eI g, 96, .inl (fun j => nI (tx j)))), (h0, .inr (0, [.ref h1, .ref h2, .int (nI sk9), .int (nI ek9), .int (nI tr9)])), (h1, .inl (eI g, 41, .inl (fun j => nI (W9 j)))), (h2, .inl (eI g, 5, .inl (fun j => nI (B9 j)))), (h3, .inr (1, [.ref h4, .int (nI n9)])), (h4, .inl (eI g, 7, .inl (fun j => nI (q9 j))))] ∧ (effB (cmb W B sk ek tr) (fmN (tx p)) (fdP tx p) = true → cmb W9 B9 sk9 ek9 tr9 = effS (cmb W B sk ek tr) (fmN (tx p)) (fdP tx p) ∧ (∀ j, W9 j ≤ 9) ∧ okB B9 ∧ sk9 ≤ 3 ∧ ek9 ≤ 4 ∧ tr9 ≤ 99) ∧ W9 0 = W 0) 0 0 := by
  refine ctI (cc := cX3_comes) (maxL := 4) (ret := (some .boolean)) (by decide) rfl (Nat.le_of_ble_eq_true rfl) ?_
  intro p_ e_ s_ m_ bl_ mt_ cd_ A ls F hnm hP hD hS hl
  obtain ⟨hx, hb, hml, hown, hts, hK, hX, hA, hrt_, hlocks⟩ := id F
  have hl : lv_has ls 4 [(0, .ref t0), (1, .int (nI p)), (2, .ref h0), (3, .ref h3)] := hl
  obtain ⟨hb0, hb1, hb2, hb3, hb4, hb5⟩ := okB_b hB
  obtain ⟨hpt, hf6, hpe, hk4⟩ := stm_ok hp
  have hmem := fm_mem hf6
  refine lv_aload_n hx hb dX3_comes_0 rfl (lv_at hl 0 rfl) ?_
  refine lv_iload_n hx hb dX3_comes_1 rfl (lv_at hl 1 rfl) ?_
  refine cVI (As := [.int (nI p)]) (rest := []) F (n_X3_letterAt l g t0 t1 tn_ tx p (htn) (htx) (hpt)) kX3_letterAt rfl gX3_comes_X3_letterAt rfl rfl ⟨Nat.le_of_ble_eq_true rfl, Nat.le_of_ble_eq_true rfl⟩ hP hD hS [0, 1] [2, 3, 4, 5, 6] rfl rfl 0 rfl rfl hl.1 rfl rfl (Nat.le_of_ble_eq_true rfl) dX3_comes_2 ⟨Nat.le_of_ble_eq_true rfl, Nat.le_of_ble_eq_true rfl⟩ (fun rz w1 H locs hpo hP hD hS => ?_)
  obtain ⟨rfl, rfl⟩ := hpo
  obtain ⟨hP, hD⟩ := nx (ws' := [(t0, .inr (3, [.ref t1, .int (nI tn_)])), (t1, .inl (eI g, 96, .inl (fun j => nI (tx j)))), (h0, .inr (0, [.ref h1, .ref h2, .int (nI sk), .int (nI ek), .int (nI tr)])), (h1, .inl (eI g, 41, .inl (fun j => nI (W j)))), (h2, .inl (eI g, 5, .inl (fun j => nI (B j)))), (h3, .inr (1, [.ref h4, .int (nI n)])), (h4, .inl (eI g, 7, .inl (fun j => nI (q j))))]) hP hD [5, 6, 0, 1, 2, 3, 4] (ndB_ok _ rfl) rfl
  rcases (show tx p < 98 ∨ tx p = 98 ∨ tx p = 99 ∨ tx p = 100 ∨ tx p = 101 ∨ tx p = 102 ∨ tx p = 103 ∨ tx p = 104 ∨ tx p = 105 ∨ tx p = 106 ∨ tx p = 107 ∨ tx p = 108 ∨ tx p = 109 ∨ tx p = 110 ∨ tx p = 111 ∨ tx p = 112 ∨ tx p = 113 ∨ tx p = 114 ∨ tx p = 115 ∨ tx p = 116 ∨ 116 < tx p by omega) with c5 | c5 | c5 | c5 | c5 | c5 | c5 | c5 | c5 | c5 | c5 | c5 | c5 | c5 | c5 | c5 | c5 | c5 | c5 | c5 | c5
  · refine lv_tableOut (tgt := 239) hx hb dX3_comes_5 (Or.inl (by rw [nI_toInt (by have := htx p; omega)]; omega)) (by decide) ?_
    exfalso; omega
  · refine lv_tableIn (tgt := 122) hx hb dX3_comes_5 (by rw [c5]; decide) (by rw [c5]; decide) (by rw [c5]; rfl) (by decide) ?_
    have hi : fmN (tx p) = 1 := by rw [c5]; rfl
    rw [hi] at hk4
    have hc0_ : p + 1 < tn_ := (hk4 0 (by decide)).1
    have hd0_ : 48 ≤ tx (p + 1) ∧ tx (p + 1) ≤ 57 := okc_d (show okc 48 (tx (p + 1)) = true from (hk4 0 (by decide)).2)
    have hc1_ : p + 2 < tn_ := (hk4 1 (by decide)).1
    have hb1 := dg_b hd0_
    refine lv_aload_n hx hb dX3_comes_122 rfl (lv_at hl 2 rfl) ?_
    refine lv_iconst (v := (nI 0)) hx hb dX3_comes_123 (by decide) ?_
    refine lv_aload_n hx hb dX3_comes_124 rfl (lv_at hl 0 rfl) ?_
    refine lv_iload_n hx hb dX3_comes_125 rfl (lv_at hl 1 rfl) ?_
    refine lv_iconst (v := (nI 1)) hx hb dX3_comes_126 (by decide) ?_
    refine xadd hx hb dX3_comes_127 ?_
    refine cVI (As := [.int (nI (p + 1))]) (rest := [.int (nI 0), .ref h0]) F (c_X3_digitAt l g t0 t1 tn_ tx (p + 1) (htn) (htx) (by omega) (hd0_)) kX3_digitAt rfl gX3_comes_X3_digitAt rfl rfl ⟨Nat.le_of_ble_eq_true rfl, Nat.le_of_ble_eq_true rfl⟩ hP hD hS [0, 1] [2, 3, 4, 5, 6] rfl rfl 0 rfl rfl hl.1 rfl rfl (Nat.le_of_ble_eq_true rfl) dX3_comes_128 ⟨Nat.le_of_ble_eq_true rfl, Nat.le_of_ble_eq_true rfl⟩ (fun rz w1 H locs hpo hP hD hS => ?_)
    obtain ⟨rfl, rfl⟩ := hpo
    obtain ⟨hP, hD⟩ := nx (ws' := [(t0, .inr (3, [.ref t1, .int (nI tn_)])), (t1, .inl (eI g, 96, .inl (fun j => nI (tx j)))), (h0, .inr (0, [.ref h1, .ref h2, .int (nI sk), .int (nI ek), .int (nI tr)])), (h1, .inl (eI g, 41, .inl (fun j => nI (W j)))), (h2, .inl (eI g, 5, .inl (fun j => nI (B j)))), (h3, .inr (1, [.ref h4, .int (nI n)])), (h4, .inl (eI g, 7, .inl (fun j => nI (q j))))]) hP hD [5, 6, 0, 1, 2, 3, 4] (ndB_ok _ rfl) rfl
    refine cVI (As := [.int (nI 0), .int (nI (dg tx (p + 1)))]) (rest := []) F (c_X0_putNumber l g h0 h1 h2 W B sk ek tr 0 (dg tx (p + 1)) (by omega) (by omega)) kX0_putNumber rfl gX3_comes_X0_putNumber rfl rfl ⟨Nat.le_of_ble_eq_true rfl, Nat.le_of_ble_eq_true rfl⟩ hP hD hS [2, 3, 4] [0, 1, 5, 6] rfl rfl 0 rfl rfl hl.1 rfl rfl (Nat.le_of_ble_eq_true rfl) dX3_comes_131 ⟨Nat.le_of_ble_eq_true rfl, Nat.le_of_ble_eq_true rfl⟩ (fun rz w1 H locs hpo hP hD hS => ?_)
    obtain ⟨rfl, rfl⟩ := hpo
    obtain ⟨hP, hD⟩ := nx (ws' := [(t0, .inr (3, [.ref t1, .int (nI tn_)])), (t1, .inl (eI g, 96, .inl (fun j => nI (tx j)))), (h0, .inr (0, [.ref h1, .ref h2, .int (nI sk), .int (nI ek), .int (nI tr)])), (h1, .inl (eI g, 41, .inl (fun j => nI (W j)))), (h2, .inl (eI g, 5, .inl (fun j => nI ((if leastN 0 ≤ (dg tx (p + 1)) ∧ (dg tx (p + 1)) ≤ greatN 0 then updN B 0 (dg tx (p + 1)) else B) j)))), (h3, .inr (1, [.ref h4, .int (nI n)])), (h4, .inl (eI g, 7, .inl (fun j => nI (q j))))]) hP hD [0, 1, 4, 5, 6, 2, 3] (ndB_ok _ rfl) rfl
    refine rtZ F hP hD hS dX3_comes_134 (by split <;> rfl) (⟨_, _, _, _, _, _, _, ite_iff (ef_b hi).symm, rfl, fun h => by have hQ := (ef_b hi).mp h; rw [if_pos hQ]; exact ⟨((es_b hi).trans (upd_B (i := 0) (by omega) rfl)).symm, hW, okB_upd hB hQ (by omega), hsk, hek, htr⟩, rfl⟩)
  · refine lv_tableIn (tgt := 239) hx hb dX3_comes_5 (by rw [c5]; decide) (by rw [c5]; decide) (by rw [c5]; rfl) (by decide) ?_
    exfalso; omega
  · refine lv_tableIn (tgt := 239) hx hb dX3_comes_5 (by rw [c5]; decide) (by rw [c5]; decide) (by rw [c5]; rfl) (by decide) ?_
    exfalso; omega
  · refine lv_tableIn (tgt := 159) hx hb dX3_comes_5 (by rw [c5]; decide) (by rw [c5]; decide) (by rw [c5]; rfl) (by decide) ?_
    have hi : fmN (tx p) = 3 := by rw [c5]; rfl
    rw [hi] at hk4
    have hc0_ : p + 1 < tn_ := (hk4 0 (by decide)).1
    have hc1_ : p + 2 < tn_ := (hk4 1 (by decide)).1
    have hd1_ : 48 ≤ tx (p + 2) ∧ tx (p + 2) ≤ 57 := okc_d (show okc 48 (tx (p + 2)) = true from (hk4 1 (by decide)).2)
    have hc2_ : p + 3 < tn_ := (hk4 2 (by decide)).1
    have hb3 := dg_b hd1_
    have hk7 : ixN (fb 8) (tx (p + 1)) 5 0 < 5 := okc_e (show okc 101 (tx (p + 1)) = true from (hk4 0 (by decide)).2)
    refine xsK F rfl 8 (by decide) dX3_comes_159 ?_
    refine lv_aload_n hx hb dX3_comes_161 rfl (lv_at hl 0 rfl) ?_
    refine lv_iload_n hx hb dX3_comes_162 rfl (lv_at hl 1 rfl) ?_
    refine lv_iconst (v := (nI 1)) hx hb dX3_comes_163 (by decide) ?_
    refine xadd hx hb dX3_comes_164 ?_
    refine cVI (As := [.int (nI (p + 1))]) (rest := [.ref (eK g 8)]) F (n_X3_letterAt l g t0 t1 tn_ tx (p + 1) (htn) (htx) (by omega)) kX3_letterAt rfl gX3_comes_X3_letterAt rfl rfl ⟨Nat.le_of_ble_eq_true rfl, Nat.le_of_ble_eq_true rfl⟩ hP hD hS [0, 1] [2, 3, 4, 5, 6] rfl rfl 0 rfl rfl hl.1 rfl rfl (Nat.le_of_ble_eq_true rfl) dX3_comes_165 ⟨Nat.le_of_ble_eq_true rfl, Nat.le_of_ble_eq_true rfl⟩ (fun rz w1 H locs hpo hP hD hS => ?_)
    obtain ⟨rfl, rfl⟩ := hpo
    obtain ⟨hP, hD⟩ := nx (ws' := [(t0, .inr (3, [.ref t1, .int (nI tn_)])), (t1, .inl (eI g, 96, .inl (fun j => nI (tx j)))), (h0, .inr (0, [.ref h1, .ref h2, .int (nI sk), .int (nI ek), .int (nI tr)])), (h1, .inl (eI g, 41, .inl (fun j => nI (W j)))), (h2, .inl (eI g, 5, .inl (fun j => nI (B j)))), (h3, .inr (1, [.ref h4, .int (nI n)])), (h4, .inl (eI g, 7, .inl (fun j => nI (q j))))]) hP hD [5, 6, 0, 1, 2, 3, 4] (ndB_ok _ rfl) rfl
    refine cSI (As := [.ref (eK g 8), .int (nI (tx (p + 1)))]) (rest := []) F (c_X3_kindOf l g 8 (tx (p + 1)) (by decide) (htx _)) kX3_kindOf gX3_comes_X3_kindOf rfl rfl ⟨Nat.le_of_ble_eq_true rfl, Nat.le_of_ble_eq_true rfl⟩ hP hD hS [] [0, 1, 2, 3, 4, 5, 6] rfl rfl hl.1 rfl rfl (Nat.le_of_ble_eq_true rfl) dX3_comes_168 ⟨Nat.le_of_ble_eq_true rfl, Nat.le_of_ble_eq_true rfl⟩ (fun rz w1 H locs hpo hP hD hS => ?_)
    obtain ⟨rfl, rfl⟩ := hpo
    obtain ⟨hP, hD⟩ := nx (ws' := [(t0, .inr (3, [.ref t1, .int (nI tn_)])), (t1, .inl (eI g, 96, .inl (fun j => nI (tx j)))), (h0, .inr (0, [.ref h1, .ref h2, .int (nI sk), .int (nI ek), .int (nI tr)])), (h1, .inl (eI g, 41, .inl (fun j => nI (W j)))), (h2, .inl (eI g, 5, .inl (fun j => nI (B j)))), (h3, .inr (1, [.ref h4, .int (nI n)])), (h4, .inl (eI g, 7, .inl (fun j => nI (q j))))]) hP hD [0, 1, 2, 3, 4, 5, 6] (ndB_ok _ rfl) rfl
    refine sti (show (ixJ (fb 8) (tx (p + 1)) (ln 8)) = nI (ixN (fb 8) (tx (p + 1)) 5 0) from ixJ_yes hk7) ?_
    refine lv_aload_n hx hb dX3_comes_171 rfl (lv_at hl 0 rfl) ?_
    refine lv_iload_n hx hb dX3_comes_172 rfl (lv_at hl 1 rfl) ?_
    refine lv_iconst (v := (nI 2)) hx hb dX3_comes_173 (by decide) ?_
    refine xadd hx hb dX3_comes_174 ?_
    refine cVI (As := [.int (nI (p + 2))]) (rest := [.int (nI (ixN (fb 8) (tx (p + 1)) 5 0))]) F (c_X3_digitAt l g t0 t1 tn_ tx (p + 2) (htn) (htx) (by omega) (hd1_)) kX3_digitAt rfl gX3_comes_X3_digitAt rfl rfl ⟨Nat.le_of_ble_eq_true rfl, Nat.le_of_ble_eq_true rfl⟩ hP hD hS [0, 1] [2, 3, 4, 5, 6] rfl rfl 0 rfl rfl hl.1 rfl rfl (Nat.le_of_ble_eq_true rfl) dX3_comes_175 ⟨Nat.le_of_ble_eq_true rfl, Nat.le_of_ble_eq_true rfl⟩ (fun rz w1 H locs hpo hP hD hS => ?_)
    obtain ⟨rfl, rfl⟩ := hpo
    obtain ⟨hP, hD⟩ := nx (ws' := [(t0, .inr (3, [.ref t1, .int (nI tn_)])), (t1, .inl (eI g, 96, .inl (fun j => nI (tx j)))), (h0, .inr (0, [.ref h1, .ref h2, .int (nI sk), .int (nI ek), .int (nI tr)])), (h1, .inl (eI g, 41, .inl (fun j => nI (W j)))), (h2, .inl (eI g, 5, .inl (fun j => nI (B j)))), (h3, .inr (1, [.ref h4, .int (nI n)])), (h4, .inl (eI g, 7, .inl (fun j => nI (q j))))]) hP hD [5, 6, 0, 1, 2, 3, 4] (ndB_ok _ rfl) rfl
    refine lv_aload_n hx hb dX3_comes_178 rfl (lv_at hl 2 rfl) ?_
    refine cSI (As := [.int (nI (ixN (fb 8) (tx (p + 1)) 5 0)), .int (nI (dg tx (p + 2))), .ref h0]) (rest := []) F (c_X3_eyeKindComes l g h0 h1 h2 W B sk ek tr (ixN (fb 8) (tx (p + 1)) 5 0) (dg tx (p + 2)) (by omega) (by omega)) kX3_eyeKindComes gX3_comes_X3_eyeKindComes rfl rfl ⟨Nat.le_of_ble_eq_true rfl, Nat.le_of_ble_eq_true rfl⟩ hP hD hS [2, 3, 4] [0, 1, 5, 6] rfl rfl hl.1 rfl rfl (Nat.le_of_ble_eq_true rfl) dX3_comes_179 ⟨Nat.le_of_ble_eq_true rfl, Nat.le_of_ble_eq_true rfl⟩ (fun rz w1 H locs hpo hP hD hS => ?_)
    obtain ⟨rfl, rfl⟩ := hpo
    obtain ⟨hP, hD⟩ := nx (ws' := [(t0, .inr (3, [.ref t1, .int (nI tn_)])), (t1, .inl (eI g, 96, .inl (fun j => nI (tx j)))), (h0, .inr (0, [.ref h1, .ref h2, .int (nI sk), .int (nI (ixN (fb 8) (tx (p + 1)) 5 0)), .int (nI tr)])), (h1, .inl (eI g, 41, .inl (fun j => nI (W j)))), (h2, .inl (eI g, 5, .inl (fun j => nI ((if leastN 2 ≤ (dg tx (p + 2)) ∧ (dg tx (p + 2)) ≤ greatN 2 then updN B 2 (dg tx (p + 2)) else B) j)))), (h3, .inr (1, [.ref h4, .int (nI n)])), (h4, .inl (eI g, 7, .inl (fun j => nI (q j))))]) hP hD [0, 1, 4, 5, 6, 2, 3] (ndB_ok _ rfl) rfl
    refine rtZ F hP hD hS dX3_comes_182 (by split <;> rfl) (⟨_, _, _, _, _, _, _, ite_iff (ef_e hi hb3).symm, rfl, fun h => by have hQ := (ef_e hi hb3).mp h; rw [if_pos hQ]; exact ⟨((es_e hi).trans (by rw [upd_47]; exact upd_B (i := 2) (by omega) rfl)).symm, hW, okB_upd hB hQ (by omega), hsk, by omega, htr⟩, rfl⟩)
  · refine lv_tableIn (tgt := 239) hx hb dX3_comes_5 (by rw [c5]; decide) (by rw [c5]; decide) (by rw [c5]; rfl) (by decide) ?_
    exfalso; omega
  · refine lv_tableIn (tgt := 239) hx hb dX3_comes_5 (by rw [c5]; decide) (by rw [c5]; decide) (by rw [c5]; rfl) (by decide) ?_
    exfalso; omega
  · refine lv_tableIn (tgt := 239) hx hb dX3_comes_5 (by rw [c5]; decide) (by rw [c5]; decide) (by rw [c5]; rfl) (by decide) ?_
    exfalso; omega
  · refine lv_tableIn (tgt := 239) hx hb dX3_comes_5 (by rw [c5]; decide) (by rw [c5]; decide) (by rw [c5]; rfl) (by decide) ?_
    exfalso; omega
  · refine lv_tableIn (tgt := 239) hx hb dX3_comes_5 (by rw [c5]; decide) (by rw [c5]; decide) (by rw [c5]; rfl) (by decide) ?_
    exfalso; omega
  · refine lv_tableIn (tgt := 239) hx hb dX3_comes_5 (by rw [c5]; decide) (by rw [c5]; decide) (by rw [c5]; rfl) (by decide) ?_
    exfalso; omega
  · refine lv_tableIn (tgt := 96) hx hb dX3_comes_5 (by rw [c5]; decide) (by rw [c5]; decide) (by rw [c5]; rfl) (by decide) ?_
    have hi : fmN (tx p) = 0 := by rw [c5]; rfl
    rw [hi] at hk4
    have hc0_ : p + 1 < tn_ := (hk4 0 (by decide)).1
    have hd0_ : 48 ≤ tx (p + 1) ∧ tx (p + 1) ≤ 57 := okc_d (show okc 48 (tx (p + 1)) = true from (hk4 0 (by decide)).2)
    have hc1_ : p + 2 < tn_ := (hk4 1 (by decide)).1
    have hd1_ : 48 ≤ tx (p + 2) ∧ tx (p + 2) ≤ 57 := okc_d (show okc 48 (tx (p + 2)) = true from (hk4 1 (by decide)).2)
    have hc2_ : p + 3 < tn_ := (hk4 2 (by decide)).1
    have hd2_ : 48 ≤ tx (p + 3) ∧ tx (p + 3) ≤ 57 := okc_d (show okc 48 (tx (p + 3)) = true from (hk4 2 (by decide)).2)
    have hc3_ : p + 4 < tn_ := (hk4 3 (by decide)).1
    have hd3_ : 48 ≤ tx (p + 4) ∧ tx (p + 4) ≤ 57 := okc_d (show okc 48 (tx (p + 4)) = true from (hk4 3 (by decide)).2)
    have hc4_ : p + 5 < tn_ := (hk4 4 (by decide)).1
    have hd4_ : 48 ≤ tx (p + 5) ∧ tx (p + 5) ≤ 57 := okc_d (show okc 48 (tx (p + 5)) = true from (hk4 4 (by decide)).2)
    have hc5_ : p + 6 < tn_ := (hk4 5 (by decide)).1
    have hb1 := pr2_b hd0_ hd1_
    have hb2 := pr2_b hd2_ hd3_
    have hb3 := dg_b hd4_
    refine lv_aload_n hx hb dX3_comes_96 rfl (lv_at hl 2 rfl) ?_
    refine lv_aload_n hx hb dX3_comes_97 rfl (lv_at hl 0 rfl) ?_
    refine lv_iload_n hx hb dX3_comes_98 rfl (lv_at hl 1 rfl) ?_
    refine lv_iconst (v := (nI 1)) hx hb dX3_comes_99 (by decide) ?_
    refine xadd hx hb dX3_comes_100 ?_
    refine cVI (As := [.int (nI (p + 1))]) (rest := [.ref h0]) F (c_X3_pairAt l g t0 t1 tn_ tx (p + 1) (htn) (htx) (by omega) (hd0_) (hd1_)) kX3_pairAt rfl gX3_comes_X3_pairAt rfl rfl ⟨Nat.le_of_ble_eq_true rfl, Nat.le_of_ble_eq_true rfl⟩ hP hD hS [0, 1] [2, 3, 4, 5, 6] rfl rfl 0 rfl rfl hl.1 rfl rfl (Nat.le_of_ble_eq_true rfl) dX3_comes_101 ⟨Nat.le_of_ble_eq_true rfl, Nat.le_of_ble_eq_true rfl⟩ (fun rz w1 H locs hpo hP hD hS => ?_)
    obtain ⟨rfl, rfl⟩ := hpo
    obtain ⟨hP, hD⟩ := nx (ws' := [(t0, .inr (3, [.ref t1, .int (nI tn_)])), (t1, .inl (eI g, 96, .inl (fun j => nI (tx j)))), (h0, .inr (0, [.ref h1, .ref h2, .int (nI sk), .int (nI ek), .int (nI tr)])), (h1, .inl (eI g, 41, .inl (fun j => nI (W j)))), (h2, .inl (eI g, 5, .inl (fun j => nI (B j)))), (h3, .inr (1, [.ref h4, .int (nI n)])), (h4, .inl (eI g, 7, .inl (fun j => nI (q j))))]) hP hD [5, 6, 0, 1, 2, 3, 4] (ndB_ok _ rfl) rfl
    refine lv_aload_n hx hb dX3_comes_104 rfl (lv_at hl 0 rfl) ?_
    refine lv_iload_n hx hb dX3_comes_105 rfl (lv_at hl 1 rfl) ?_
    refine lv_iconst (v := (nI 3)) hx hb dX3_comes_106 (by decide) ?_
    refine xadd hx hb dX3_comes_107 ?_
    refine cVI (As := [.int (nI (p + 3))]) (rest := [.int (nI (pr2 tx (p + 1))), .ref h0]) F (c_X3_pairAt l g t0 t1 tn_ tx (p + 3) (htn) (htx) (by omega) (hd2_) (hd3_)) kX3_pairAt rfl gX3_comes_X3_pairAt rfl rfl ⟨Nat.le_of_ble_eq_true rfl, Nat.le_of_ble_eq_true rfl⟩ hP hD hS [0, 1] [2, 3, 4, 5, 6] rfl rfl 0 rfl rfl hl.1 rfl rfl (Nat.le_of_ble_eq_true rfl) dX3_comes_108 ⟨Nat.le_of_ble_eq_true rfl, Nat.le_of_ble_eq_true rfl⟩ (fun rz w1 H locs hpo hP hD hS => ?_)
    obtain ⟨rfl, rfl⟩ := hpo
    obtain ⟨hP, hD⟩ := nx (ws' := [(t0, .inr (3, [.ref t1, .int (nI tn_)])), (t1, .inl (eI g, 96, .inl (fun j => nI (tx j)))), (h0, .inr (0, [.ref h1, .ref h2, .int (nI sk), .int (nI ek), .int (nI tr)])), (h1, .inl (eI g, 41, .inl (fun j => nI (W j)))), (h2, .inl (eI g, 5, .inl (fun j => nI (B j)))), (h3, .inr (1, [.ref h4, .int (nI n)])), (h4, .inl (eI g, 7, .inl (fun j => nI (q j))))]) hP hD [5, 6, 0, 1, 2, 3, 4] (ndB_ok _ rfl) rfl
    refine lv_aload_n hx hb dX3_comes_111 rfl (lv_at hl 0 rfl) ?_
    refine lv_iload_n hx hb dX3_comes_112 rfl (lv_at hl 1 rfl) ?_
    refine lv_iconst (v := (nI 5)) hx hb dX3_comes_113 (by decide) ?_
    refine xadd hx hb dX3_comes_114 ?_
    refine cVI (As := [.int (nI (p + 5))]) (rest := [.int (nI (pr2 tx (p + 3))), .int (nI (pr2 tx (p + 1))), .ref h0]) F (c_X3_digitAt l g t0 t1 tn_ tx (p + 5) (htn) (htx) (by omega) (hd4_)) kX3_digitAt rfl gX3_comes_X3_digitAt rfl rfl ⟨Nat.le_of_ble_eq_true rfl, Nat.le_of_ble_eq_true rfl⟩ hP hD hS [0, 1] [2, 3, 4, 5, 6] rfl rfl 0 rfl rfl hl.1 rfl rfl (Nat.le_of_ble_eq_true rfl) dX3_comes_115 ⟨Nat.le_of_ble_eq_true rfl, Nat.le_of_ble_eq_true rfl⟩ (fun rz w1 H locs hpo hP hD hS => ?_)
    obtain ⟨rfl, rfl⟩ := hpo
    obtain ⟨hP, hD⟩ := nx (ws' := [(t0, .inr (3, [.ref t1, .int (nI tn_)])), (t1, .inl (eI g, 96, .inl (fun j => nI (tx j)))), (h0, .inr (0, [.ref h1, .ref h2, .int (nI sk), .int (nI ek), .int (nI tr)])), (h1, .inl (eI g, 41, .inl (fun j => nI (W j)))), (h2, .inl (eI g, 5, .inl (fun j => nI (B j)))), (h3, .inr (1, [.ref h4, .int (nI n)])), (h4, .inl (eI g, 7, .inl (fun j => nI (q j))))]) hP hD [5, 6, 0, 1, 2, 3, 4] (ndB_ok _ rfl) rfl
    refine cVI (As := [.int (nI (pr2 tx (p + 1))), .int (nI (pr2 tx (p + 3))), .int (nI (dg tx (p + 5)))]) (rest := []) F (c_X0_putLikely l g h0 h1 h2 W B sk ek tr (pr2 tx (p + 1)) (pr2 tx (p + 3)) (dg tx (p + 5)) (by omega) (by omega) (by omega)) kX0_putLikely rfl gX3_comes_X0_putLikely rfl rfl ⟨Nat.le_of_ble_eq_true rfl, Nat.le_of_ble_eq_true rfl⟩ hP hD hS [2, 3, 4] [0, 1, 5, 6] rfl rfl 0 rfl rfl hl.1 rfl rfl (Nat.le_of_ble_eq_true rfl) dX3_comes_118 ⟨Nat.le_of_ble_eq_true rfl, Nat.le_of_ble_eq_true rfl⟩ (fun rz w1 H locs hpo hP hD hS => ?_)
    obtain ⟨rfl, rfl⟩ := hpo
    obtain ⟨hP, hD⟩ := nx (ws' := [(t0, .inr (3, [.ref t1, .int (nI tn_)])), (t1, .inl (eI g, 96, .inl (fun j => nI (tx j)))), (h0, .inr (0, [.ref h1, .ref h2, .int (nI sk), .int (nI ek), .int (nI tr)])), (h1, .inl (eI g, 41, .inl (fun j => nI ((if (1 ≤ (pr2 tx (p + 1)) ∧ (pr2 tx (p + 1)) ≤ 40) ∧ (1 ≤ (pr2 tx (p + 3)) ∧ (pr2 tx (p + 3)) ≤ 40) ∧ (pr2 tx (p + 1)) ≤ (pr2 tx (p + 3)) ∧ (dg tx (p + 5)) ≤ 9 then fillE W (pr2 tx (p + 1)) ((pr2 tx (p + 3)) + 1) (dg tx (p + 5)) else W) j)))), (h2, .inl (eI g, 5, .inl (fun j => nI (B j)))), (h3, .inr (1, [.ref h4, .int (nI n)])), (h4, .inl (eI g, 7, .inl (fun j => nI (q j))))]) hP hD [0, 1, 4, 5, 6, 2, 3] (ndB_ok _ rfl) rfl
    refine rtZ F hP hD hS dX3_comes_121 (by split <;> rfl) (⟨_, _, _, _, _, _, _, ite_iff (ef_l hi hb3).symm, rfl, fun h => by have hQ := (ef_l hi hb3).mp h; rw [if_pos hQ]; exact ⟨((es_l hi).trans (fill_cmb (by omega))).symm, fill_le hW hb3, hB, hsk, hek, htr⟩, by split <;> first | (next h => exact fill_z h.1.1) | rfl⟩)
  · refine lv_tableIn (tgt := 239) hx hb dX3_comes_5 (by rw [c5]; decide) (by rw [c5]; decide) (by rw [c5]; rfl) (by decide) ?_
    exfalso; omega
  · refine lv_tableIn (tgt := 239) hx hb dX3_comes_5 (by rw [c5]; decide) (by rw [c5]; decide) (by rw [c5]; rfl) (by decide) ?_
    exfalso; omega
  · refine lv_tableIn (tgt := 239) hx hb dX3_comes_5 (by rw [c5]; decide) (by rw [c5]; decide) (by rw [c5]; rfl) (by decide) ?_
    exfalso; omega
  · refine lv_tableIn (tgt := 183) hx hb dX3_comes_5 (by rw [c5]; decide) (by rw [c5]; decide) (by rw [c5]; rfl) (by decide) ?_
    have hi : fmN (tx p) = 4 := by rw [c5]; rfl
    rw [hi] at hk4
    have hc0_ : p + 1 < tn_ := (hk4 0 (by decide)).1
    have hd0_ : 48 ≤ tx (p + 1) ∧ tx (p + 1) ≤ 57 := okc_d (show okc 48 (tx (p + 1)) = true from (hk4 0 (by decide)).2)
    have hc1_ : p + 2 < tn_ := (hk4 1 (by decide)).1
    have hd1_ : 48 ≤ tx (p + 2) ∧ tx (p + 2) ≤ 57 := okc_d (show okc 48 (tx (p + 2)) = true from (hk4 1 (by decide)).2)
    have hc2_ : p + 3 < tn_ := (hk4 2 (by decide)).1
    have hd2_ : 48 ≤ tx (p + 3) ∧ tx (p + 3) ≤ 57 := okc_d (show okc 48 (tx (p + 3)) = true from (hk4 2 (by decide)).2)
    have hc3_ : p + 4 < tn_ := (hk4 3 (by decide)).1
    have hd3_ : 48 ≤ tx (p + 4) ∧ tx (p + 4) ≤ 57 := okc_d (show okc 48 (tx (p + 4)) = true from (hk4 3 (by decide)).2)
    have hc4_ : p + 5 < tn_ := (hk4 4 (by decide)).1
    have hb1 := pr2_b hd0_ hd1_
    have hb2 := pr2_b hd2_ hd3_
    have hl3 : leastN 3 = 0 ∧ greatN 3 = 99 ∧ leastN 4 = 0 ∧ greatN 4 = 99 := ⟨rfl, rfl, rfl, rfl⟩
    refine lv_aload_n hx hb dX3_comes_183 rfl (lv_at hl 2 rfl) ?_
    refine lv_iconst (v := (nI 3)) hx hb dX3_comes_184 (by decide) ?_
    refine lv_aload_n hx hb dX3_comes_185 rfl (lv_at hl 0 rfl) ?_
    refine lv_iload_n hx hb dX3_comes_186 rfl (lv_at hl 1 rfl) ?_
    refine lv_iconst (v := (nI 1)) hx hb dX3_comes_187 (by decide) ?_
    refine xadd hx hb dX3_comes_188 ?_
    refine cVI (As := [.int (nI (p + 1))]) (rest := [.int (nI 3), .ref h0]) F (c_X3_pairAt l g t0 t1 tn_ tx (p + 1) (htn) (htx) (by omega) (hd0_) (hd1_)) kX3_pairAt rfl gX3_comes_X3_pairAt rfl rfl ⟨Nat.le_of_ble_eq_true rfl, Nat.le_of_ble_eq_true rfl⟩ hP hD hS [0, 1] [2, 3, 4, 5, 6] rfl rfl 0 rfl rfl hl.1 rfl rfl (Nat.le_of_ble_eq_true rfl) dX3_comes_189 ⟨Nat.le_of_ble_eq_true rfl, Nat.le_of_ble_eq_true rfl⟩ (fun rz w1 H locs hpo hP hD hS => ?_)
    obtain ⟨rfl, rfl⟩ := hpo
    obtain ⟨hP, hD⟩ := nx (ws' := [(t0, .inr (3, [.ref t1, .int (nI tn_)])), (t1, .inl (eI g, 96, .inl (fun j => nI (tx j)))), (h0, .inr (0, [.ref h1, .ref h2, .int (nI sk), .int (nI ek), .int (nI tr)])), (h1, .inl (eI g, 41, .inl (fun j => nI (W j)))), (h2, .inl (eI g, 5, .inl (fun j => nI (B j)))), (h3, .inr (1, [.ref h4, .int (nI n)])), (h4, .inl (eI g, 7, .inl (fun j => nI (q j))))]) hP hD [5, 6, 0, 1, 2, 3, 4] (ndB_ok _ rfl) rfl
    refine cVI (As := [.int (nI 3), .int (nI (pr2 tx (p + 1)))]) (rest := []) F (c_X0_putNumber l g h0 h1 h2 W B sk ek tr 3 (pr2 tx (p + 1)) (by omega) (by omega)) kX0_putNumber rfl gX3_comes_X0_putNumber rfl rfl ⟨Nat.le_of_ble_eq_true rfl, Nat.le_of_ble_eq_true rfl⟩ hP hD hS [2, 3, 4] [0, 1, 5, 6] rfl rfl 0 rfl rfl hl.1 rfl rfl (Nat.le_of_ble_eq_true rfl) dX3_comes_192 ⟨Nat.le_of_ble_eq_true rfl, Nat.le_of_ble_eq_true rfl⟩ (fun rz w1 H locs hpo hP hD hS => ?_)
    obtain ⟨rfl, rfl⟩ := hpo
    obtain ⟨hP, hD⟩ := nx (ws' := [(t0, .inr (3, [.ref t1, .int (nI tn_)])), (t1, .inl (eI g, 96, .inl (fun j => nI (tx j)))), (h0, .inr (0, [.ref h1, .ref h2, .int (nI sk), .int (nI ek), .int (nI tr)])), (h1, .inl (eI g, 41, .inl (fun j => nI (W j)))), (h2, .inl (eI g, 5, .inl (fun j => nI ((if leastN 3 ≤ (pr2 tx (p + 1)) ∧ (pr2 tx (p + 1)) ≤ greatN 3 then updN B 3 (pr2 tx (p + 1)) else B) j)))), (h3, .inr (1, [.ref h4, .int (nI n)])), (h4, .inl (eI g, 7, .inl (fun j => nI (q j))))]) hP hD [0, 1, 4, 5, 6, 2, 3] (ndB_ok _ rfl) rfl
    refine bqeq (tgt := 217) hx hb dX3_comes_195 (by decide) (fun c195 => ?_) (fun c195 => ?_)
    · skip
      exfalso; omega
    · skip
      rw [if_pos c195] at hP hD
      have hP : va_P (eD g) vwCl [(t0, .inr (3, [.ref t1, .int (nI tn_)])), (t1, .inl (eI g, 96, .inl (fun j => nI (tx j)))), (h0, .inr (0, [.ref h1, .ref h2, .int (nI sk), .int (nI ek), .int (nI tr)])), (h1, .inl (eI g, 41, .inl (fun j => nI (W j)))), (h2, .inl (eI g, 5, .inl (fun j => nI ((updN B 3 (pr2 tx (p + 1))) j)))), (h3, .inr (1, [.ref h4, .int (nI n)])), (h4, .inl (eI g, 7, .inl (fun j => nI (q j))))] H := hP
      have hD : va_D A [(t0, .inr (3, [.ref t1, .int (nI tn_)])), (t1, .inl (eI g, 96, .inl (fun j => nI (tx j)))), (h0, .inr (0, [.ref h1, .ref h2, .int (nI sk), .int (nI ek), .int (nI tr)])), (h1, .inl (eI g, 41, .inl (fun j => nI (W j)))), (h2, .inl (eI g, 5, .inl (fun j => nI ((updN B 3 (pr2 tx (p + 1))) j)))), (h3, .inr (1, [.ref h4, .int (nI n)])), (h4, .inl (eI g, 7, .inl (fun j => nI (q j))))] := hD
      refine lv_aload_n hx hb dX3_comes_198 rfl (lv_at hl 2 rfl) ?_
      refine lv_iconst (v := (nI 4)) hx hb dX3_comes_199 (by decide) ?_
      refine lv_aload_n hx hb dX3_comes_200 rfl (lv_at hl 0 rfl) ?_
      refine lv_iload_n hx hb dX3_comes_201 rfl (lv_at hl 1 rfl) ?_
      refine lv_iconst (v := (nI 3)) hx hb dX3_comes_202 (by decide) ?_
      refine xadd hx hb dX3_comes_203 ?_
      refine cVI (As := [.int (nI (p + 3))]) (rest := [.int (nI 4), .ref h0]) F (c_X3_pairAt l g t0 t1 tn_ tx (p + 3) (htn) (htx) (by omega) (hd2_) (hd3_)) kX3_pairAt rfl gX3_comes_X3_pairAt rfl rfl ⟨Nat.le_of_ble_eq_true rfl, Nat.le_of_ble_eq_true rfl⟩ hP hD hS [0, 1] [2, 3, 4, 5, 6] rfl rfl 0 rfl rfl hl.1 rfl rfl (Nat.le_of_ble_eq_true rfl) dX3_comes_204 ⟨Nat.le_of_ble_eq_true rfl, Nat.le_of_ble_eq_true rfl⟩ (fun rz w1 H locs hpo hP hD hS => ?_)
      obtain ⟨rfl, rfl⟩ := hpo
      obtain ⟨hP, hD⟩ := nx (ws' := [(t0, .inr (3, [.ref t1, .int (nI tn_)])), (t1, .inl (eI g, 96, .inl (fun j => nI (tx j)))), (h0, .inr (0, [.ref h1, .ref h2, .int (nI sk), .int (nI ek), .int (nI tr)])), (h1, .inl (eI g, 41, .inl (fun j => nI (W j)))), (h2, .inl (eI g, 5, .inl (fun j => nI ((updN B 3 (pr2 tx (p + 1))) j)))), (h3, .inr (1, [.ref h4, .int (nI n)])), (h4, .inl (eI g, 7, .inl (fun j => nI (q j))))]) hP hD [5, 6, 0, 1, 2, 3, 4] (ndB_ok _ rfl) rfl
      refine cVI (As := [.int (nI 4), .int (nI (pr2 tx (p + 3)))]) (rest := []) F (c_X0_putNumber l g h0 h1 h2 W (updN B 3 (pr2 tx (p + 1))) sk ek tr 4 (pr2 tx (p + 3)) (by omega) (by omega)) kX0_putNumber rfl gX3_comes_X0_putNumber rfl rfl ⟨Nat.le_of_ble_eq_true rfl, Nat.le_of_ble_eq_true rfl⟩ hP hD hS [2, 3, 4] [0, 1, 5, 6] rfl rfl 0 rfl rfl hl.1 rfl rfl (Nat.le_of_ble_eq_true rfl) dX3_comes_207 ⟨Nat.le_of_ble_eq_true rfl, Nat.le_of_ble_eq_true rfl⟩ (fun rz w1 H locs hpo hP hD hS => ?_)
      obtain ⟨rfl, rfl⟩ := hpo
      obtain ⟨hP, hD⟩ := nx (ws' := [(t0, .inr (3, [.ref t1, .int (nI tn_)])), (t1, .inl (eI g, 96, .inl (fun j => nI (tx j)))), (h0, .inr (0, [.ref h1, .ref h2, .int (nI sk), .int (nI ek), .int (nI tr)])), (h1, .inl (eI g, 41, .inl (fun j => nI (W j)))), (h2, .inl (eI g, 5, .inl (fun j => nI ((if leastN 4 ≤ (pr2 tx (p + 3)) ∧ (pr2 tx (p + 3)) ≤ greatN 4 then updN (updN B 3 (pr2 tx (p + 1))) 4 (pr2 tx (p + 3)) else (updN B 3 (pr2 tx (p + 1)))) j)))), (h3, .inr (1, [.ref h4, .int (nI n)])), (h4, .inl (eI g, 7, .inl (fun j => nI (q j))))]) hP hD [0, 1, 4, 5, 6, 2, 3] (ndB_ok _ rfl) rfl
      refine bqeq (tgt := 217) hx hb dX3_comes_210 (by decide) (fun c210 => ?_) (fun c210 => ?_)
      · skip
        exfalso; omega
      · skip
        rw [if_pos c210] at hP hD
        have hP : va_P (eD g) vwCl [(t0, .inr (3, [.ref t1, .int (nI tn_)])), (t1, .inl (eI g, 96, .inl (fun j => nI (tx j)))), (h0, .inr (0, [.ref h1, .ref h2, .int (nI sk), .int (nI ek), .int (nI tr)])), (h1, .inl (eI g, 41, .inl (fun j => nI (W j)))), (h2, .inl (eI g, 5, .inl (fun j => nI ((updN (updN B 3 (pr2 tx (p + 1))) 4 (pr2 tx (p + 3))) j)))), (h3, .inr (1, [.ref h4, .int (nI n)])), (h4, .inl (eI g, 7, .inl (fun j => nI (q j))))] H := hP
        have hD : va_D A [(t0, .inr (3, [.ref t1, .int (nI tn_)])), (t1, .inl (eI g, 96, .inl (fun j => nI (tx j)))), (h0, .inr (0, [.ref h1, .ref h2, .int (nI sk), .int (nI ek), .int (nI tr)])), (h1, .inl (eI g, 41, .inl (fun j => nI (W j)))), (h2, .inl (eI g, 5, .inl (fun j => nI ((updN (updN B 3 (pr2 tx (p + 1))) 4 (pr2 tx (p + 3))) j)))), (h3, .inr (1, [.ref h4, .int (nI n)])), (h4, .inl (eI g, 7, .inl (fun j => nI (q j))))] := hD
        refine lv_iconst (v := (nI 1)) hx hb dX3_comes_213 (by decide) ?_
        refine lv_goto (tgt := 218) hx hb dX3_comes_214 (by decide) ?_
        exact rtZ F hP hD hS dX3_comes_218 (rfl) (⟨_, _, _, _, _, _, _, congrArg nI (if_pos (ef_p hi)).symm, rfl, fun _ => ⟨((es_p hi).trans (by rw [upd_B (i := 3) (by omega) rfl]; exact upd_B (i := 4) (by omega) rfl)).symm, hW, okB_upd (okB_upd hB c195 (by omega)) c210 (by omega), hsk, hek, htr⟩, rfl⟩)
  · refine lv_tableIn (tgt := 239) hx hb dX3_comes_5 (by rw [c5]; decide) (by rw [c5]; decide) (by rw [c5]; rfl) (by decide) ?_
    exfalso; omega
  · refine lv_tableIn (tgt := 239) hx hb dX3_comes_5 (by rw [c5]; decide) (by rw [c5]; decide) (by rw [c5]; rfl) (by decide) ?_
    exfalso; omega
  · refine lv_tableIn (tgt := 135) hx hb dX3_comes_5 (by rw [c5]; decide) (by rw [c5]; decide) (by rw [c5]; rfl) (by decide) ?_
    have hi : fmN (tx p) = 2 := by rw [c5]; rfl
    rw [hi] at hk4
    have hc0_ : p + 1 < tn_ := (hk4 0 (by decide)).1
    have hc1_ : p + 2 < tn_ := (hk4 1 (by decide)).1
    have hd1_ : 48 ≤ tx (p + 2) ∧ tx (p + 2) ≤ 57 := okc_d (show okc 48 (tx (p + 2)) = true from (hk4 1 (by decide)).2)
    have hc2_ : p + 3 < tn_ := (hk4 2 (by decide)).1
    have hb3 := dg_b hd1_
    have hk7 : ixN (fb 7) (tx (p + 1)) 4 0 < 4 := okc_s (show okc 115 (tx (p + 1)) = true from (hk4 0 (by decide)).2)
    refine xsK F rfl 7 (by decide) dX3_comes_135 ?_
    refine lv_aload_n hx hb dX3_comes_137 rfl (lv_at hl 0 rfl) ?_
    refine lv_iload_n hx hb dX3_comes_138 rfl (lv_at hl 1 rfl) ?_
    refine lv_iconst (v := (nI 1)) hx hb dX3_comes_139 (by decide) ?_
    refine xadd hx hb dX3_comes_140 ?_
    refine cVI (As := [.int (nI (p + 1))]) (rest := [.ref (eK g 7)]) F (n_X3_letterAt l g t0 t1 tn_ tx (p + 1) (htn) (htx) (by omega)) kX3_letterAt rfl gX3_comes_X3_letterAt rfl rfl ⟨Nat.le_of_ble_eq_true rfl, Nat.le_of_ble_eq_true rfl⟩ hP hD hS [0, 1] [2, 3, 4, 5, 6] rfl rfl 0 rfl rfl hl.1 rfl rfl (Nat.le_of_ble_eq_true rfl) dX3_comes_141 ⟨Nat.le_of_ble_eq_true rfl, Nat.le_of_ble_eq_true rfl⟩ (fun rz w1 H locs hpo hP hD hS => ?_)
    obtain ⟨rfl, rfl⟩ := hpo
    obtain ⟨hP, hD⟩ := nx (ws' := [(t0, .inr (3, [.ref t1, .int (nI tn_)])), (t1, .inl (eI g, 96, .inl (fun j => nI (tx j)))), (h0, .inr (0, [.ref h1, .ref h2, .int (nI sk), .int (nI ek), .int (nI tr)])), (h1, .inl (eI g, 41, .inl (fun j => nI (W j)))), (h2, .inl (eI g, 5, .inl (fun j => nI (B j)))), (h3, .inr (1, [.ref h4, .int (nI n)])), (h4, .inl (eI g, 7, .inl (fun j => nI (q j))))]) hP hD [5, 6, 0, 1, 2, 3, 4] (ndB_ok _ rfl) rfl
    refine cSI (As := [.ref (eK g 7), .int (nI (tx (p + 1)))]) (rest := []) F (c_X3_kindOf l g 7 (tx (p + 1)) (by decide) (htx _)) kX3_kindOf gX3_comes_X3_kindOf rfl rfl ⟨Nat.le_of_ble_eq_true rfl, Nat.le_of_ble_eq_true rfl⟩ hP hD hS [] [0, 1, 2, 3, 4, 5, 6] rfl rfl hl.1 rfl rfl (Nat.le_of_ble_eq_true rfl) dX3_comes_144 ⟨Nat.le_of_ble_eq_true rfl, Nat.le_of_ble_eq_true rfl⟩ (fun rz w1 H locs hpo hP hD hS => ?_)
    obtain ⟨rfl, rfl⟩ := hpo
    obtain ⟨hP, hD⟩ := nx (ws' := [(t0, .inr (3, [.ref t1, .int (nI tn_)])), (t1, .inl (eI g, 96, .inl (fun j => nI (tx j)))), (h0, .inr (0, [.ref h1, .ref h2, .int (nI sk), .int (nI ek), .int (nI tr)])), (h1, .inl (eI g, 41, .inl (fun j => nI (W j)))), (h2, .inl (eI g, 5, .inl (fun j => nI (B j)))), (h3, .inr (1, [.ref h4, .int (nI n)])), (h4, .inl (eI g, 7, .inl (fun j => nI (q j))))]) hP hD [0, 1, 2, 3, 4, 5, 6] (ndB_ok _ rfl) rfl
    refine sti (show (ixJ (fb 7) (tx (p + 1)) (ln 7)) = nI (ixN (fb 7) (tx (p + 1)) 4 0) from ixJ_yes hk7) ?_
    refine lv_aload_n hx hb dX3_comes_147 rfl (lv_at hl 0 rfl) ?_
    refine lv_iload_n hx hb dX3_comes_148 rfl (lv_at hl 1 rfl) ?_
    refine lv_iconst (v := (nI 2)) hx hb dX3_comes_149 (by decide) ?_
    refine xadd hx hb dX3_comes_150 ?_
    refine cVI (As := [.int (nI (p + 2))]) (rest := [.int (nI (ixN (fb 7) (tx (p + 1)) 4 0))]) F (c_X3_digitAt l g t0 t1 tn_ tx (p + 2) (htn) (htx) (by omega) (hd1_)) kX3_digitAt rfl gX3_comes_X3_digitAt rfl rfl ⟨Nat.le_of_ble_eq_true rfl, Nat.le_of_ble_eq_true rfl⟩ hP hD hS [0, 1] [2, 3, 4, 5, 6] rfl rfl 0 rfl rfl hl.1 rfl rfl (Nat.le_of_ble_eq_true rfl) dX3_comes_151 ⟨Nat.le_of_ble_eq_true rfl, Nat.le_of_ble_eq_true rfl⟩ (fun rz w1 H locs hpo hP hD hS => ?_)
    obtain ⟨rfl, rfl⟩ := hpo
    obtain ⟨hP, hD⟩ := nx (ws' := [(t0, .inr (3, [.ref t1, .int (nI tn_)])), (t1, .inl (eI g, 96, .inl (fun j => nI (tx j)))), (h0, .inr (0, [.ref h1, .ref h2, .int (nI sk), .int (nI ek), .int (nI tr)])), (h1, .inl (eI g, 41, .inl (fun j => nI (W j)))), (h2, .inl (eI g, 5, .inl (fun j => nI (B j)))), (h3, .inr (1, [.ref h4, .int (nI n)])), (h4, .inl (eI g, 7, .inl (fun j => nI (q j))))]) hP hD [5, 6, 0, 1, 2, 3, 4] (ndB_ok _ rfl) rfl
    refine lv_aload_n hx hb dX3_comes_154 rfl (lv_at hl 2 rfl) ?_
    refine cSI (As := [.int (nI (ixN (fb 7) (tx (p + 1)) 4 0)), .int (nI (dg tx (p + 2))), .ref h0]) (rest := []) F (c_X3_stripKindComes l g h0 h1 h2 W B sk ek tr (ixN (fb 7) (tx (p + 1)) 4 0) (dg tx (p + 2)) (by omega) (by omega)) kX3_stripKindComes gX3_comes_X3_stripKindComes rfl rfl ⟨Nat.le_of_ble_eq_true rfl, Nat.le_of_ble_eq_true rfl⟩ hP hD hS [2, 3, 4] [0, 1, 5, 6] rfl rfl hl.1 rfl rfl (Nat.le_of_ble_eq_true rfl) dX3_comes_155 ⟨Nat.le_of_ble_eq_true rfl, Nat.le_of_ble_eq_true rfl⟩ (fun rz w1 H locs hpo hP hD hS => ?_)
    obtain ⟨rfl, rfl⟩ := hpo
    obtain ⟨hP, hD⟩ := nx (ws' := [(t0, .inr (3, [.ref t1, .int (nI tn_)])), (t1, .inl (eI g, 96, .inl (fun j => nI (tx j)))), (h0, .inr (0, [.ref h1, .ref h2, .int (nI (ixN (fb 7) (tx (p + 1)) 4 0)), .int (nI ek), .int (nI tr)])), (h1, .inl (eI g, 41, .inl (fun j => nI (W j)))), (h2, .inl (eI g, 5, .inl (fun j => nI ((if leastN 1 ≤ (dg tx (p + 2)) ∧ (dg tx (p + 2)) ≤ greatN 1 then updN B 1 (dg tx (p + 2)) else B) j)))), (h3, .inr (1, [.ref h4, .int (nI n)])), (h4, .inl (eI g, 7, .inl (fun j => nI (q j))))]) hP hD [0, 1, 4, 5, 6, 2, 3] (ndB_ok _ rfl) rfl
    refine rtZ F hP hD hS dX3_comes_158 (by split <;> rfl) (⟨_, _, _, _, _, _, _, ite_iff (ef_s hi hb3).symm, rfl, fun h => by have hQ := (ef_s hi hb3).mp h; rw [if_pos hQ]; exact ⟨((es_s hi).trans (by rw [upd_46]; exact upd_B (i := 1) (by omega) rfl)).symm, hW, okB_upd hB hQ (by omega), by omega, hek, htr⟩, rfl⟩)
  · refine lv_tableIn (tgt := 219) hx hb dX3_comes_5 (by rw [c5]; decide) (by rw [c5]; decide) (by rw [c5]; rfl) (by decide) ?_
    have hi : fmN (tx p) = 5 := by rw [c5]; rfl
    rw [hi] at hk4
    have hc0_ : p + 1 < tn_ := (hk4 0 (by decide)).1
    have hd0_ : 48 ≤ tx (p + 1) ∧ tx (p + 1) ≤ 57 := okc_d (show okc 48 (tx (p + 1)) = true from (hk4 0 (by decide)).2)
    have hc1_ : p + 2 < tn_ := (hk4 1 (by decide)).1
    have hd1_ : 48 ≤ tx (p + 2) ∧ tx (p + 2) ≤ 57 := okc_d (show okc 48 (tx (p + 2)) = true from (hk4 1 (by decide)).2)
    have hc2_ : p + 3 < tn_ := (hk4 2 (by decide)).1
    have hd2_ : 48 ≤ tx (p + 3) ∧ tx (p + 3) ≤ 57 := okc_d (show okc 48 (tx (p + 3)) = true from (hk4 2 (by decide)).2)
    have hc3_ : p + 4 < tn_ := (hk4 3 (by decide)).1
    have hb1 := pr2_b hd0_ hd1_
    have hb3 := dg_b hd2_
    refine lv_aload_n hx hb dX3_comes_219 rfl (lv_at hl 0 rfl) ?_
    refine lv_iload_n hx hb dX3_comes_220 rfl (lv_at hl 1 rfl) ?_
    refine lv_iconst (v := (nI 1)) hx hb dX3_comes_221 (by decide) ?_
    refine xadd hx hb dX3_comes_222 ?_
    refine cVI (As := [.int (nI (p + 1))]) (rest := []) F (c_X3_pairAt l g t0 t1 tn_ tx (p + 1) (htn) (htx) (by omega) (hd0_) (hd1_)) kX3_pairAt rfl gX3_comes_X3_pairAt rfl rfl ⟨Nat.le_of_ble_eq_true rfl, Nat.le_of_ble_eq_true rfl⟩ hP hD hS [0, 1] [2, 3, 4, 5, 6] rfl rfl 0 rfl rfl hl.1 rfl rfl (Nat.le_of_ble_eq_true rfl) dX3_comes_223 ⟨Nat.le_of_ble_eq_true rfl, Nat.le_of_ble_eq_true rfl⟩ (fun rz w1 H locs hpo hP hD hS => ?_)
    obtain ⟨rfl, rfl⟩ := hpo
    obtain ⟨hP, hD⟩ := nx (ws' := [(t0, .inr (3, [.ref t1, .int (nI tn_)])), (t1, .inl (eI g, 96, .inl (fun j => nI (tx j)))), (h0, .inr (0, [.ref h1, .ref h2, .int (nI sk), .int (nI ek), .int (nI tr)])), (h1, .inl (eI g, 41, .inl (fun j => nI (W j)))), (h2, .inl (eI g, 5, .inl (fun j => nI (B j)))), (h3, .inr (1, [.ref h4, .int (nI n)])), (h4, .inl (eI g, 7, .inl (fun j => nI (q j))))]) hP hD [5, 6, 0, 1, 2, 3, 4] (ndB_ok _ rfl) rfl
    refine lv_aload_n hx hb dX3_comes_226 rfl (lv_at hl 0 rfl) ?_
    refine lv_iload_n hx hb dX3_comes_227 rfl (lv_at hl 1 rfl) ?_
    refine lv_iconst (v := (nI 3)) hx hb dX3_comes_228 (by decide) ?_
    refine xadd hx hb dX3_comes_229 ?_
    refine cVI (As := [.int (nI (p + 3))]) (rest := [.int (nI (pr2 tx (p + 1)))]) F (c_X3_digitAt l g t0 t1 tn_ tx (p + 3) (htn) (htx) (by omega) (hd2_)) kX3_digitAt rfl gX3_comes_X3_digitAt rfl rfl ⟨Nat.le_of_ble_eq_true rfl, Nat.le_of_ble_eq_true rfl⟩ hP hD hS [0, 1] [2, 3, 4, 5, 6] rfl rfl 0 rfl rfl hl.1 rfl rfl (Nat.le_of_ble_eq_true rfl) dX3_comes_230 ⟨Nat.le_of_ble_eq_true rfl, Nat.le_of_ble_eq_true rfl⟩ (fun rz w1 H locs hpo hP hD hS => ?_)
    obtain ⟨rfl, rfl⟩ := hpo
    obtain ⟨hP, hD⟩ := nx (ws' := [(t0, .inr (3, [.ref t1, .int (nI tn_)])), (t1, .inl (eI g, 96, .inl (fun j => nI (tx j)))), (h0, .inr (0, [.ref h1, .ref h2, .int (nI sk), .int (nI ek), .int (nI tr)])), (h1, .inl (eI g, 41, .inl (fun j => nI (W j)))), (h2, .inl (eI g, 5, .inl (fun j => nI (B j)))), (h3, .inr (1, [.ref h4, .int (nI n)])), (h4, .inl (eI g, 7, .inl (fun j => nI (q j))))]) hP hD [5, 6, 0, 1, 2, 3, 4] (ndB_ok _ rfl) rfl
    refine lv_aload_n hx hb dX3_comes_233 rfl (lv_at hl 2 rfl) ?_
    refine lv_aload_n hx hb dX3_comes_234 rfl (lv_at hl 3 rfl) ?_
    refine cSI (As := [.int (nI (pr2 tx (p + 1))), .int (nI (dg tx (p + 3))), .ref h0, .ref h3]) (rest := []) F (c_X3_toldStripComes l g h0 h1 h2 W B sk ek tr h3 h4 q n (pr2 tx (p + 1)) (dg tx (p + 3)) (hW) (hB) (hsk) (hek) (htr) (by omega) (by omega)) kX3_toldStripComes gX3_comes_X3_toldStripComes rfl rfl ⟨Nat.le_of_ble_eq_true rfl, Nat.le_of_ble_eq_true rfl⟩ hP hD hS [2, 3, 4, 5, 6] [0, 1] rfl rfl hl.1 rfl rfl (Nat.le_of_ble_eq_true rfl) dX3_comes_235 ⟨Nat.le_of_ble_eq_true rfl, Nat.le_of_ble_eq_true rfl⟩ (fun rz w1 H locs hpo hP hD hS => ?_)
    obtain ⟨q9_22, n9_22, rfl, rfl⟩ := hpo
    obtain ⟨hP, hD⟩ := nx (ws' := [(t0, .inr (3, [.ref t1, .int (nI tn_)])), (t1, .inl (eI g, 96, .inl (fun j => nI (tx j)))), (h0, .inr (0, [.ref h1, .ref h2, .int (nI sk), .int (nI ek), .int (nI (if (1 ≤ (pr2 tx (p + 1)) ∧ (pr2 tx (p + 1)) ≤ 40) ∧ tr < 99 ∧ cnS (prt (tlT B sk ek) (lpB W) (pr2 tx (p + 1)) (dg tx (p + 3))) ≠ 0 then tr + 1 else tr))])), (h1, .inl (eI g, 41, .inl (fun j => nI ((if (1 ≤ (pr2 tx (p + 1)) ∧ (pr2 tx (p + 1)) ≤ 40) ∧ tr < 99 ∧ cnS (prt (tlT B sk ek) (lpB W) (pr2 tx (p + 1)) (dg tx (p + 3))) ≠ 0 then cutN W (prt (tlT B sk ek) (lpB W) (pr2 tx (p + 1)) (dg tx (p + 3))) 40 else W) j)))), (h2, .inl (eI g, 5, .inl (fun j => nI (B j)))), (h3, .inr (1, [.ref h4, .int (nI n9_22)])), (h4, .inl (eI g, 7, .inl (fun j => nI (q9_22 j))))]) hP hD [0, 1, 2, 3, 4, 5, 6] (ndB_ok _ rfl) rfl
    refine rtZ F hP hD hS dX3_comes_238 (by split <;> rfl) (⟨_, _, _, _, _, _, _, ite_iff (ef_t hi htr).symm, rfl, fun h => by have hQ := (ef_t hi htr).mp h; rw [if_pos hQ, if_pos hQ]; exact ⟨(es_t hi).symm, cut_le9 hW, hB, hsk, hek, by omega⟩, by split <;> first | exact cut_z | rfl⟩)
  · refine lv_tableOut (tgt := 239) hx hb dX3_comes_5 (Or.inr (by rw [nI_toInt (by have := htx p; omega)]; omega)) (by decide) ?_
    exfalso; omega
