theorem kX4_isSecond : Cal yX4_isSecond wsX4_isSecond cX4_isSecond 1 (some .boolean) 1 := ⟨⟨_, rfl⟩, by decide +kernel⟩
set_option maxHeartbeats 4000000 in
set_option maxRecDepth 100000 in
theorem c_X4_isSecond (l : Launch) (g : EE) (x : Int32)  : CI l yX4_isSecond wsX4_isSecond ({ frames := 0, cells := 0, slots := 0, locals := 0 }) g [.int x] [] (fun (rz : Int32) (wz : va_W) => rz = (nI (if 1 ≤ x.toInt ∧ x.toInt ≤ 40 then 1 else 0)) ∧ wz = []) 0 0 := by
  refine ctI (cc := cX4_isSecond) (maxL := 1) (ret := (some .boolean)) (by decide) rfl (Nat.le_of_ble_eq_true rfl) ?_
  intro p_ e_ s_ m_ bl_ mt_ cd_ A ls F hnm hP hD hS hl
  obtain ⟨hx, hb, hml, hown, hts, hK, hX, hA, hrt_, hlocks⟩ := id F
  have hl : lv_has ls 1 [(0, .int x)] := hl
  refine lv_iload_n hx hb dX4_isSecond_0 rfl (lv_at hl 0 rfl) ?_
  refine lv_iconst (v := (nI 1)) hx hb dX4_isSecond_1 (by decide) ?_
  refine ylt (tgt := 15) hx hb dX4_isSecond_2 (by decide) (by omega) (fun c2 => ?_) (fun c2 => ?_)
  · skip
    refine lv_iconst (v := (nI 0)) hx hb dX4_isSecond_15 (by decide) ?_
    exact rtZ F hP hD hS dX4_isSecond_16 (rfl) (⟨by first | rw [if_pos (by omega)] | rw [if_neg (by omega)], rfl⟩)
  · skip
    refine lv_iload_n hx hb dX4_isSecond_5 rfl (lv_at hl 0 rfl) ?_
    refine lv_bipush (v := (nI 40)) hx hb dX4_isSecond_6 (by decide) ?_
    refine ygt (tgt := 15) hx hb dX4_isSecond_8 (by decide) (by omega) (fun c8 => ?_) (fun c8 => ?_)
    · skip
      refine lv_iconst (v := (nI 0)) hx hb dX4_isSecond_15 (by decide) ?_
      exact rtZ F hP hD hS dX4_isSecond_16 (rfl) (⟨by first | rw [if_pos (by omega)] | rw [if_neg (by omega)], rfl⟩)
    · skip
      refine lv_iconst (v := (nI 1)) hx hb dX4_isSecond_11 (by decide) ?_
      refine lv_goto (tgt := 16) hx hb dX4_isSecond_12 (by decide) ?_
      exact rtZ F hP hD hS dX4_isSecond_16 (rfl) (⟨by first | rw [if_pos (by omega)] | rw [if_neg (by omega)], rfl⟩)

set_option maxHeartbeats 4000000 in
set_option maxRecDepth 100000 in
theorem n_X4_isSecond (l : Launch) (g : EE) (x : Nat) (hx0 : x < 2000000000) : CI l yX4_isSecond wsX4_isSecond ({ frames := 0, cells := 0, slots := 0, locals := 0 }) g [.int (nI x)] [] (fun (rz : Int32) (wz : va_W) => rz = (nI (if 1 ≤ x ∧ x ≤ 40 then 1 else 0)) ∧ wz = []) 0 0 := by
  refine ctI (cc := cX4_isSecond) (maxL := 1) (ret := (some .boolean)) (by decide) rfl (Nat.le_of_ble_eq_true rfl) ?_
  intro p_ e_ s_ m_ bl_ mt_ cd_ A ls F hnm hP hD hS hl
  obtain ⟨hx, hb, hml, hown, hts, hK, hX, hA, hrt_, hlocks⟩ := id F
  have hl : lv_has ls 1 [(0, .int (nI x))] := hl
  refine lv_iload_n hx hb dX4_isSecond_0 rfl (lv_at hl 0 rfl) ?_
  refine lv_iconst (v := (nI 1)) hx hb dX4_isSecond_1 (by decide) ?_
  refine xlt (tgt := 15) hx hb dX4_isSecond_2 (by decide) (by omega) (by omega) (fun c2 => ?_) (fun c2 => ?_)
  · skip
    refine lv_iconst (v := (nI 0)) hx hb dX4_isSecond_15 (by decide) ?_
    exact rtZ F hP hD hS dX4_isSecond_16 (rfl) (⟨by first | rw [if_pos (by omega)] | rw [if_neg (by omega)], rfl⟩)
  · skip
    refine lv_iload_n hx hb dX4_isSecond_5 rfl (lv_at hl 0 rfl) ?_
    refine lv_bipush (v := (nI 40)) hx hb dX4_isSecond_6 (by decide) ?_
    refine xgt (tgt := 15) hx hb dX4_isSecond_8 (by decide) (by omega) (by omega) (fun c8 => ?_) (fun c8 => ?_)
    · skip
      refine lv_iconst (v := (nI 0)) hx hb dX4_isSecond_15 (by decide) ?_
      exact rtZ F hP hD hS dX4_isSecond_16 (rfl) (⟨by first | rw [if_pos (by omega)] | rw [if_neg (by omega)], rfl⟩)
    · skip
      refine lv_iconst (v := (nI 1)) hx hb dX4_isSecond_11 (by decide) ?_
      refine lv_goto (tgt := 16) hx hb dX4_isSecond_12 (by decide) ?_
      exact rtZ F hP hD hS dX4_isSecond_16 (rfl) (⟨by first | rw [if_pos (by omega)] | rw [if_neg (by omega)], rfl⟩)

theorem kX4_isStripKind : Cal yX4_isStripKind wsX4_isStripKind cX4_isStripKind 1 (some .boolean) 1 := ⟨⟨_, rfl⟩, by decide +kernel⟩
set_option maxHeartbeats 4000000 in
set_option maxRecDepth 100000 in
theorem n_X4_isStripKind (l : Launch) (g : EE) (x : Nat) (hx0 : x < 2000000000) : CI l yX4_isStripKind wsX4_isStripKind ({ frames := 0, cells := 0, slots := 0, locals := 0 }) g [.int (nI x)] [] (fun (rz : Int32) (wz : va_W) => rz = (nI (if 0 ≤ x ∧ x ≤ 3 then 1 else 0)) ∧ wz = []) 0 0 := by
  refine ctI (cc := cX4_isStripKind) (maxL := 1) (ret := (some .boolean)) (by decide) rfl (Nat.le_of_ble_eq_true rfl) ?_
  intro p_ e_ s_ m_ bl_ mt_ cd_ A ls F hnm hP hD hS hl
  obtain ⟨hx, hb, hml, hown, hts, hK, hX, hA, hrt_, hlocks⟩ := id F
  have hl : lv_has ls 1 [(0, .int (nI x))] := hl
  refine lv_iload_n hx hb dX4_isStripKind_0 rfl (lv_at hl 0 rfl) ?_
  refine zlt (tgt := 13) hx hb dX4_isStripKind_1 (by decide) (by omega) ?_
  refine lv_iload_n hx hb dX4_isStripKind_4 rfl (lv_at hl 0 rfl) ?_
  refine lv_iconst (v := (nI 4)) hx hb dX4_isStripKind_5 (by decide) ?_
  refine xge (tgt := 13) hx hb dX4_isStripKind_6 (by decide) (by omega) (by omega) (fun c6 => ?_) (fun c6 => ?_)
  · skip
    refine lv_iconst (v := (nI 0)) hx hb dX4_isStripKind_13 (by decide) ?_
    exact rtZ F hP hD hS dX4_isStripKind_14 (rfl) (⟨by first | rw [if_pos (by omega)] | rw [if_neg (by omega)], rfl⟩)
  · skip
    refine lv_iconst (v := (nI 1)) hx hb dX4_isStripKind_9 (by decide) ?_
    refine lv_goto (tgt := 14) hx hb dX4_isStripKind_10 (by decide) ?_
    exact rtZ F hP hD hS dX4_isStripKind_14 (rfl) (⟨by first | rw [if_pos (by omega)] | rw [if_neg (by omega)], rfl⟩)

theorem kX4_isEyeKind : Cal yX4_isEyeKind wsX4_isEyeKind cX4_isEyeKind 1 (some .boolean) 1 := ⟨⟨_, rfl⟩, by decide +kernel⟩
set_option maxHeartbeats 4000000 in
set_option maxRecDepth 100000 in
theorem n_X4_isEyeKind (l : Launch) (g : EE) (x : Nat) (hx0 : x < 2000000000) : CI l yX4_isEyeKind wsX4_isEyeKind ({ frames := 0, cells := 0, slots := 0, locals := 0 }) g [.int (nI x)] [] (fun (rz : Int32) (wz : va_W) => rz = (nI (if 0 ≤ x ∧ x ≤ 4 then 1 else 0)) ∧ wz = []) 0 0 := by
  refine ctI (cc := cX4_isEyeKind) (maxL := 1) (ret := (some .boolean)) (by decide) rfl (Nat.le_of_ble_eq_true rfl) ?_
  intro p_ e_ s_ m_ bl_ mt_ cd_ A ls F hnm hP hD hS hl
  obtain ⟨hx, hb, hml, hown, hts, hK, hX, hA, hrt_, hlocks⟩ := id F
  have hl : lv_has ls 1 [(0, .int (nI x))] := hl
  refine lv_iload_n hx hb dX4_isEyeKind_0 rfl (lv_at hl 0 rfl) ?_
  refine zlt (tgt := 13) hx hb dX4_isEyeKind_1 (by decide) (by omega) ?_
  refine lv_iload_n hx hb dX4_isEyeKind_4 rfl (lv_at hl 0 rfl) ?_
  refine lv_iconst (v := (nI 5)) hx hb dX4_isEyeKind_5 (by decide) ?_
  refine xge (tgt := 13) hx hb dX4_isEyeKind_6 (by decide) (by omega) (by omega) (fun c6 => ?_) (fun c6 => ?_)
  · skip
    refine lv_iconst (v := (nI 0)) hx hb dX4_isEyeKind_13 (by decide) ?_
    exact rtZ F hP hD hS dX4_isEyeKind_14 (rfl) (⟨by first | rw [if_pos (by omega)] | rw [if_neg (by omega)], rfl⟩)
  · skip
    refine lv_iconst (v := (nI 1)) hx hb dX4_isEyeKind_9 (by decide) ?_
    refine lv_goto (tgt := 14) hx hb dX4_isEyeKind_10 (by decide) ?_
    exact rtZ F hP hD hS dX4_isEyeKind_14 (rfl) (⟨by first | rw [if_pos (by omega)] | rw [if_neg (by omega)], rfl⟩)

set_option maxHeartbeats 4000000 in
set_option maxRecDepth 100000 in
theorem c_X4_isStripKind (l : Launch) (g : EE) (x : Int32)  : CI l yX4_isStripKind wsX4_isStripKind ({ frames := 0, cells := 0, slots := 0, locals := 0 }) g [.int x] [] (fun (rz : Int32) (wz : va_W) => rz = (nI (if 0 ≤ x.toInt ∧ x.toInt ≤ 3 then 1 else 0)) ∧ wz = []) 0 0 := by
  refine ctI (cc := cX4_isStripKind) (maxL := 1) (ret := (some .boolean)) (by decide) rfl (Nat.le_of_ble_eq_true rfl) ?_
  intro p_ e_ s_ m_ bl_ mt_ cd_ A ls F hnm hP hD hS hl
  obtain ⟨hx, hb, hml, hown, hts, hK, hX, hA, hrt_, hlocks⟩ := id F
  have hl : lv_has ls 1 [(0, .int x)] := hl
  refine lv_iload_n hx hb dX4_isStripKind_0 rfl (lv_at hl 0 rfl) ?_
  refine wlt (tgt := 13) hx hb dX4_isStripKind_1 (by decide) (fun c1 => ?_) (fun c1 => ?_)
  · skip
    refine lv_iconst (v := (nI 0)) hx hb dX4_isStripKind_13 (by decide) ?_
    exact rtZ F hP hD hS dX4_isStripKind_14 (rfl) (⟨by first | rw [if_pos (by omega)] | rw [if_neg (by omega)], rfl⟩)
  · skip
    refine lv_iload_n hx hb dX4_isStripKind_4 rfl (lv_at hl 0 rfl) ?_
    refine lv_iconst (v := (nI 4)) hx hb dX4_isStripKind_5 (by decide) ?_
    refine yge (tgt := 13) hx hb dX4_isStripKind_6 (by decide) (by omega) (fun c6 => ?_) (fun c6 => ?_)
    · skip
      refine lv_iconst (v := (nI 0)) hx hb dX4_isStripKind_13 (by decide) ?_
      exact rtZ F hP hD hS dX4_isStripKind_14 (rfl) (⟨by first | rw [if_pos (by omega)] | rw [if_neg (by omega)], rfl⟩)
    · skip
      refine lv_iconst (v := (nI 1)) hx hb dX4_isStripKind_9 (by decide) ?_
      refine lv_goto (tgt := 14) hx hb dX4_isStripKind_10 (by decide) ?_
      exact rtZ F hP hD hS dX4_isStripKind_14 (rfl) (⟨by first | rw [if_pos (by omega)] | rw [if_neg (by omega)], rfl⟩)

set_option maxHeartbeats 4000000 in
set_option maxRecDepth 100000 in
theorem c_X4_isEyeKind (l : Launch) (g : EE) (x : Int32)  : CI l yX4_isEyeKind wsX4_isEyeKind ({ frames := 0, cells := 0, slots := 0, locals := 0 }) g [.int x] [] (fun (rz : Int32) (wz : va_W) => rz = (nI (if 0 ≤ x.toInt ∧ x.toInt ≤ 4 then 1 else 0)) ∧ wz = []) 0 0 := by
  refine ctI (cc := cX4_isEyeKind) (maxL := 1) (ret := (some .boolean)) (by decide) rfl (Nat.le_of_ble_eq_true rfl) ?_
  intro p_ e_ s_ m_ bl_ mt_ cd_ A ls F hnm hP hD hS hl
  obtain ⟨hx, hb, hml, hown, hts, hK, hX, hA, hrt_, hlocks⟩ := id F
  have hl : lv_has ls 1 [(0, .int x)] := hl
  refine lv_iload_n hx hb dX4_isEyeKind_0 rfl (lv_at hl 0 rfl) ?_
  refine wlt (tgt := 13) hx hb dX4_isEyeKind_1 (by decide) (fun c1 => ?_) (fun c1 => ?_)
  · skip
    refine lv_iconst (v := (nI 0)) hx hb dX4_isEyeKind_13 (by decide) ?_
    exact rtZ F hP hD hS dX4_isEyeKind_14 (rfl) (⟨by first | rw [if_pos (by omega)] | rw [if_neg (by omega)], rfl⟩)
  · skip
    refine lv_iload_n hx hb dX4_isEyeKind_4 rfl (lv_at hl 0 rfl) ?_
    refine lv_iconst (v := (nI 5)) hx hb dX4_isEyeKind_5 (by decide) ?_
    refine yge (tgt := 13) hx hb dX4_isEyeKind_6 (by decide) (by omega) (fun c6 => ?_) (fun c6 => ?_)
    · skip
      refine lv_iconst (v := (nI 0)) hx hb dX4_isEyeKind_13 (by decide) ?_
      exact rtZ F hP hD hS dX4_isEyeKind_14 (rfl) (⟨by first | rw [if_pos (by omega)] | rw [if_neg (by omega)], rfl⟩)
    · skip
      refine lv_iconst (v := (nI 1)) hx hb dX4_isEyeKind_9 (by decide) ?_
      refine lv_goto (tgt := 14) hx hb dX4_isEyeKind_10 (by decide) ?_
      exact rtZ F hP hD hS dX4_isEyeKind_14 (rfl) (⟨by first | rw [if_pos (by omega)] | rw [if_neg (by omega)], rfl⟩)

theorem kX4_isPart : Cal yX4_isPart wsX4_isPart cX4_isPart 1 (some .boolean) 1 := ⟨⟨_, rfl⟩, by decide +kernel⟩
set_option maxHeartbeats 4000000 in
set_option maxRecDepth 100000 in
theorem c_X4_isPart (l : Launch) (g : EE) (x : Int32)  : CI l yX4_isPart wsX4_isPart ({ frames := 0, cells := 0, slots := 0, locals := 0 }) g [.int x] [] (fun (rz : Int32) (wz : va_W) => rz = (nI (if x.toInt = 0 ∨ x.toInt = 1 then 1 else 0)) ∧ wz = []) 0 0 := by
  refine ctI (cc := cX4_isPart) (maxL := 1) (ret := (some .boolean)) (by decide) rfl (Nat.le_of_ble_eq_true rfl) ?_
  intro p_ e_ s_ m_ bl_ mt_ cd_ A ls F hnm hP hD hS hl
  obtain ⟨hx, hb, hml, hown, hts, hK, hX, hA, hrt_, hlocks⟩ := id F
  have hl : lv_has ls 1 [(0, .int x)] := hl
  refine lv_iload_n hx hb dX4_isPart_0 rfl (lv_at hl 0 rfl) ?_
  refine weq (tgt := 9) hx hb dX4_isPart_1 (by decide) (fun c1 => ?_) (fun c1 => ?_)
  · skip
    refine lv_iconst (v := (nI 1)) hx hb dX4_isPart_9 (by decide) ?_
    refine lv_goto (tgt := 14) hx hb dX4_isPart_10 (by decide) ?_
    exact rtZ F hP hD hS dX4_isPart_14 (rfl) (⟨by first | rw [if_pos (by omega)] | rw [if_neg (by omega)], rfl⟩)
  · skip
    refine lv_iload_n hx hb dX4_isPart_4 rfl (lv_at hl 0 rfl) ?_
    refine lv_iconst (v := (nI 1)) hx hb dX4_isPart_5 (by decide) ?_
    refine yne (tgt := 13) hx hb dX4_isPart_6 (by decide) (by omega) (fun c6 => ?_) (fun c6 => ?_)
    · skip
      refine lv_iconst (v := (nI 0)) hx hb dX4_isPart_13 (by decide) ?_
      exact rtZ F hP hD hS dX4_isPart_14 (rfl) (⟨by first | rw [if_pos (by omega)] | rw [if_neg (by omega)], rfl⟩)
    · skip
      refine lv_iconst (v := (nI 1)) hx hb dX4_isPart_9 (by decide) ?_
      refine lv_goto (tgt := 14) hx hb dX4_isPart_10 (by decide) ?_
      exact rtZ F hP hD hS dX4_isPart_14 (rfl) (⟨by first | rw [if_pos (by omega)] | rw [if_neg (by omega)], rfl⟩)

theorem kX4_isMeasure : Cal yX4_isMeasure wsX4_isMeasure cX4_isMeasure 1 (some .boolean) 1 := ⟨⟨_, rfl⟩, by decide +kernel⟩
set_option maxHeartbeats 4000000 in
set_option maxRecDepth 100000 in
theorem c_X4_isMeasure (l : Launch) (g : EE) (x : Int32)  : CI l yX4_isMeasure wsX4_isMeasure ({ frames := 0, cells := 0, slots := 0, locals := 0 }) g [.int x] [] (fun (rz : Int32) (wz : va_W) => rz = (nI (if 0 ≤ x.toInt ∧ x.toInt ≤ 2 then 1 else 0)) ∧ wz = []) 0 0 := by
  refine ctI (cc := cX4_isMeasure) (maxL := 1) (ret := (some .boolean)) (by decide) rfl (Nat.le_of_ble_eq_true rfl) ?_
  intro p_ e_ s_ m_ bl_ mt_ cd_ A ls F hnm hP hD hS hl
  obtain ⟨hx, hb, hml, hown, hts, hK, hX, hA, hrt_, hlocks⟩ := id F
  have hl : lv_has ls 1 [(0, .int x)] := hl
  refine lv_iload_n hx hb dX4_isMeasure_0 rfl (lv_at hl 0 rfl) ?_
  refine wlt (tgt := 13) hx hb dX4_isMeasure_1 (by decide) (fun c1 => ?_) (fun c1 => ?_)
  · skip
    refine lv_iconst (v := (nI 0)) hx hb dX4_isMeasure_13 (by decide) ?_
    exact rtZ F hP hD hS dX4_isMeasure_14 (rfl) (⟨by first | rw [if_pos (by omega)] | rw [if_neg (by omega)], rfl⟩)
  · skip
    refine lv_iload_n hx hb dX4_isMeasure_4 rfl (lv_at hl 0 rfl) ?_
    refine lv_iconst (v := (nI 2)) hx hb dX4_isMeasure_5 (by decide) ?_
    refine ygt (tgt := 13) hx hb dX4_isMeasure_6 (by decide) (by omega) (fun c6 => ?_) (fun c6 => ?_)
    · skip
      refine lv_iconst (v := (nI 0)) hx hb dX4_isMeasure_13 (by decide) ?_
      exact rtZ F hP hD hS dX4_isMeasure_14 (rfl) (⟨by first | rw [if_pos (by omega)] | rw [if_neg (by omega)], rfl⟩)
    · skip
      refine lv_iconst (v := (nI 1)) hx hb dX4_isMeasure_9 (by decide) ?_
      refine lv_goto (tgt := 14) hx hb dX4_isMeasure_10 (by decide) ?_
      exact rtZ F hP hD hS dX4_isMeasure_14 (rfl) (⟨by first | rw [if_pos (by omega)] | rw [if_neg (by omega)], rfl⟩)

theorem kX1_doubled : Cal yX1_doubled wsX1_doubled cX1_doubled 4 (some .int) 2 := ⟨⟨_, rfl⟩, by decide +kernel⟩
set_option maxHeartbeats 4000000 in
set_option maxRecDepth 100000 in
theorem c_X1_doubled (l : Launch) (g : EE) (v : Nat) (t : Nat) (ht : t < 100) : CI l yX1_doubled wsX1_doubled ({ frames := 0, cells := 0, slots := 0, locals := 0 }) g [.int (nI v), .int (nI t)] [] (fun (rz : Int32) (wz : va_W) => rz = (nI (v * 2 ^ t)) ∧ wz = []) 0 0 := by
  refine ctI (cc := cX1_doubled) (maxL := 4) (ret := (some .int)) (by decide) rfl (Nat.le_of_ble_eq_true rfl) ?_
  intro p_ e_ s_ m_ bl_ mt_ cd_ A ls F hnm hP hD hS hl
  obtain ⟨hx, hb, hml, hown, hts, hK, hX, hA, hrt_, hlocks⟩ := id F
  have hl : lv_has ls 4 [(0, .int (nI v)), (1, .int (nI t))] := hl
  refine lv_iload_n hx hb dX1_doubled_0 rfl (lv_at hl 0 rfl) ?_
  refine lv_istore_n (lv' := [(2, .int (nI v)), (0, .int (nI v)), (1, .int (nI t))]) hx hb dX1_doubled_1 rfl hl (by decide) rfl (fun ls hl => ?_)
  refine lv_iconst (v := (nI 0)) hx hb dX1_doubled_2 (by decide) ?_
  refine lv_istore_n (lv' := [(3, .int (nI 0)), (2, .int (nI v)), (0, .int (nI v)), (1, .int (nI t))]) hx hb dX1_doubled_3 rfl hl (by decide) rfl (fun ls hl => ?_)
  refine xlo (σ := Nat × Nat) 4 (fun xz_ => (fun (i : Nat) (a : Nat) => [(0, .int (nI v)), (1, .int (nI t)), (2, .int (nI a)), (3, .int (nI i))]) xz_.1 xz_.2) (fun xz_ => (fun (i : Nat) (a : Nat) => []) xz_.1 xz_.2) (fun xz_ => (fun (i : Nat) (a : Nat) => a = v * 2 ^ i ∧ i ≤ t) xz_.1 xz_.2) (fun xz_ => (fun (i : Nat) (a : Nat) => t - i) xz_.1 xz_.2) (fun xz_ hI ih4 H locs ls hP hD hS hl => ?_) (0, v) (show v = v * 2 ^ 0 ∧ 0 ≤ t from (⟨by simp, by omega⟩)) hP hD hS (lv_sub hl [2, 3, 1, 0] rfl)
  obtain ⟨i, a⟩ := xz_
  have hP : va_P (eD g) vwCl [] H := hP
  have hD : va_D A [] := hD
  have hl : lv_has ls 4 [(0, .int (nI v)), (1, .int (nI t)), (2, .int (nI a)), (3, .int (nI i))] := hl
  have hI4 : a = v * 2 ^ i ∧ i ≤ t := hI
  clear hI
  obtain ⟨ha, hi⟩ := id hI4
  refine lv_iload_n hx hb dX1_doubled_4 rfl (lv_at hl 3 rfl) ?_
  refine lv_iload_n hx hb dX1_doubled_5 rfl (lv_at hl 1 rfl) ?_
  refine xge (tgt := 19) hx hb dX1_doubled_6 (by decide) (by omega) (by omega) (fun c6 => ?_) (fun c6 => ?_)
  · skip
    refine lv_iload_n hx hb dX1_doubled_19 rfl (lv_at hl 2 rfl) ?_
    exact rtI F hP hD hS dX1_doubled_20 (⟨by rw [ha, show i = t by omega], rfl⟩)
  · skip
    refine lv_iload_n hx hb dX1_doubled_9 rfl (lv_at hl 2 rfl) ?_
    refine lv_iconst (v := (nI 2)) hx hb dX1_doubled_10 (by decide) ?_
    refine xmul hx hb dX1_doubled_11 ?_
    refine lv_istore_n (lv' := [(2, .int (nI (a * 2))), (0, .int (nI v)), (1, .int (nI t)), (3, .int (nI i))]) hx hb dX1_doubled_12 rfl hl (by decide) rfl (fun ls hl => ?_)
    refine lv_iinc (v := (nI (i + 1))) (lv' := [(3, .int (nI (i + 1))), (2, .int (nI (a * 2))), (0, .int (nI v)), (1, .int (nI t))]) hx hb dX1_doubled_13 hl (k := 3) rfl (iincP i 1) (by decide) rfl (fun ls hl => ?_)
    refine lv_goto (tgt := 4) hx hb dX1_doubled_16 (by decide) ?_
    exact ih4 (i + 1, a * 2) (show (a * 2) = v * 2 ^ (i + 1) ∧ (i + 1) ≤ t from (⟨by rw [hI4.1, Nat.pow_succ, Nat.mul_assoc], by omega⟩)) (show t - (i + 1) < t - i from (by omega)) _ _ _ hP hD hS (lv_sub hl [2, 3, 1, 0] rfl)

theorem kX1_halfway : Cal yX1_halfway wsX1_halfway cX1_halfway 4 (some .int) 2 := ⟨⟨_, rfl⟩, by decide +kernel⟩
set_option maxHeartbeats 4000000 in
set_option maxRecDepth 100000 in
theorem c_X1_halfway (l : Launch) (g : EE) (v : Nat) (t : Nat) (hv : v ≤ 40) (ht : t ≤ 6) : CI l yX1_halfway wsX1_halfway ({ frames := 0, cells := 0, slots := 0, locals := 0 }) g [.int (nI v), .int (nI t)] [] (fun (rz : Int32) (wz : va_W) => rz = (nI (hwN v t)) ∧ wz = []) 0 0 := by
  refine ctI (cc := cX1_halfway) (maxL := 4) (ret := (some .int)) (by decide) rfl (Nat.le_of_ble_eq_true rfl) ?_
  intro p_ e_ s_ m_ bl_ mt_ cd_ A ls F hnm hP hD hS hl
  obtain ⟨hx, hb, hml, hown, hts, hK, hX, hA, hrt_, hlocks⟩ := id F
  have hl : lv_has ls 4 [(0, .int (nI v)), (1, .int (nI t))] := hl
  refine lv_iload_n hx hb dX1_halfway_0 rfl (lv_at hl 0 rfl) ?_
  refine lv_istore_n (lv' := [(2, .int (nI v)), (0, .int (nI v)), (1, .int (nI t))]) hx hb dX1_halfway_1 rfl hl (by decide) rfl (fun ls hl => ?_)
  refine lv_iconst (v := (nI 0)) hx hb dX1_halfway_2 (by decide) ?_
  refine lv_istore_n (lv' := [(3, .int (nI 0)), (2, .int (nI v)), (0, .int (nI v)), (1, .int (nI t))]) hx hb dX1_halfway_3 rfl hl (by decide) rfl (fun ls hl => ?_)
  refine xlo (σ := Nat × Nat) 4 (fun xz_ => (fun (i : Nat) (a : Nat) => [(0, .int (nI v)), (1, .int (nI t)), (2, .int (nI a)), (3, .int (nI i))]) xz_.1 xz_.2) (fun xz_ => (fun (i : Nat) (a : Nat) => []) xz_.1 xz_.2) (fun xz_ => (fun (i : Nat) (a : Nat) => a = hwN v i ∧ i ≤ t) xz_.1 xz_.2) (fun xz_ => (fun (i : Nat) (a : Nat) => t - i) xz_.1 xz_.2) (fun xz_ hI ih4 H locs ls hP hD hS hl => ?_) (0, v) (show v = hwN v 0 ∧ 0 ≤ t from (⟨rfl, by omega⟩)) hP hD hS (lv_sub hl [2, 3, 1, 0] rfl)
  obtain ⟨i, a⟩ := xz_
  have hP : va_P (eD g) vwCl [] H := hP
  have hD : va_D A [] := hD
  have hl : lv_has ls 4 [(0, .int (nI v)), (1, .int (nI t)), (2, .int (nI a)), (3, .int (nI i))] := hl
  have hI4 : a = hwN v i ∧ i ≤ t := hI
  clear hI
  obtain ⟨ha, hi⟩ := id hI4
  have hab : a ≤ 2560 := by rw [ha]; exact hwN_b hv (by omega)
  refine lv_iload_n hx hb dX1_halfway_4 rfl (lv_at hl 3 rfl) ?_
  refine lv_iload_n hx hb dX1_halfway_5 rfl (lv_at hl 1 rfl) ?_
  refine xge (tgt := 23) hx hb dX1_halfway_6 (by decide) (by omega) (by omega) (fun c6 => ?_) (fun c6 => ?_)
  · skip
    refine lv_iload_n hx hb dX1_halfway_23 rfl (lv_at hl 2 rfl) ?_
    exact rtI F hP hD hS dX1_halfway_24 (⟨by rw [ha, show i = t by omega], rfl⟩)
  · skip
    refine lv_iload_n hx hb dX1_halfway_9 rfl (lv_at hl 2 rfl) ?_
    refine lv_iload_n hx hb dX1_halfway_10 rfl (lv_at hl 2 rfl) ?_
    refine lv_iconst (v := (nI 1)) hx hb dX1_halfway_11 (by decide) ?_
    refine xadd hx hb dX1_halfway_12 ?_
    refine lv_iconst (v := (nI 2)) hx hb dX1_halfway_13 (by decide) ?_
    refine xdiv hx hb (by omega) (by omega) (by omega) dX1_halfway_14 ?_
    refine xadd hx hb dX1_halfway_15 ?_
    refine lv_istore_n (lv' := [(2, .int (nI (a + ((a + 1) / 2)))), (0, .int (nI v)), (1, .int (nI t)), (3, .int (nI i))]) hx hb dX1_halfway_16 rfl hl (by decide) rfl (fun ls hl => ?_)
    refine lv_iinc (v := (nI (i + 1))) (lv' := [(3, .int (nI (i + 1))), (2, .int (nI (a + ((a + 1) / 2)))), (0, .int (nI v)), (1, .int (nI t))]) hx hb dX1_halfway_17 hl (k := 3) rfl (iincP i 1) (by decide) rfl (fun ls hl => ?_)
    refine lv_goto (tgt := 4) hx hb dX1_halfway_20 (by decide) ?_
    exact ih4 (i + 1, a + ((a + 1) / 2)) (show (a + ((a + 1) / 2)) = hwN v (i + 1) ∧ (i + 1) ≤ t from (⟨by rw [ha]; rfl, by omega⟩)) (show t - (i + 1) < t - i from (by omega)) _ _ _ hP hD hS (lv_sub hl [2, 3, 1, 0] rfl)

theorem kX1_secondsOf : Cal yX1_secondsOf wsX1_secondsOf cX1_secondsOf 6 (some .int) 5 := ⟨⟨_, rfl⟩, by decide +kernel⟩
set_option maxHeartbeats 4000000 in
set_option maxRecDepth 100000 in
theorem c_X1_secondsOf (l : Launch) (g : EE) (sk : Nat) (v : Nat) (i : Nat) (nb : Nat) (st : Nat) (hsk : sk ≤ 3) (hv : v ≤ 40) (hi : i < nb) (hn : nb ≤ 7) (hs : 1 ≤ st) : CI l yX1_secondsOf wsX1_secondsOf ({ frames := 1, cells := 0, slots := 0, locals := 23 }) g [.int (nI sk), .int (nI v), .int (nI i), .int (nI nb), .int (nI st)] [] (fun (rz : Int32) (wz : va_W) => rz = (nI (sec0 sk nb st v i)) ∧ wz = []) 0 0 := by
  refine ctI (cc := cX1_secondsOf) (maxL := 6) (ret := (some .int)) (by decide) rfl (Nat.le_of_ble_eq_true rfl) ?_
  intro p_ e_ s_ m_ bl_ mt_ cd_ A ls F hnm hP hD hS hl
  obtain ⟨hx, hb, hml, hown, hts, hK, hX, hA, hrt_, hlocks⟩ := id F
  have hl : lv_has ls 6 [(0, .int (nI sk)), (1, .int (nI v)), (2, .int (nI i)), (3, .int (nI nb)), (4, .int (nI st))] := hl
  refine lv_iload_n hx hb dX1_secondsOf_0 rfl (lv_at hl 2 rfl) ?_
  refine zne (tgt := 8) hx hb dX1_secondsOf_1 (by decide) (by omega) (fun c1 => ?_) (fun c1 => ?_)
  · skip
    refine lv_iload hx hb dX1_secondsOf_8 (lv_at hl 4 rfl) ?_
    refine lv_iconst (v := (nI 1)) hx hb dX1_secondsOf_10 (by decide) ?_
    refine xsub hx hb (by omega) dX1_secondsOf_11 ?_
    refine lv_istore (lv' := [(5, .int (nI (st - 1))), (0, .int (nI sk)), (1, .int (nI v)), (2, .int (nI i)), (3, .int (nI nb)), (4, .int (nI st))]) hx hb dX1_secondsOf_12 hl (by decide) rfl (fun ls hl => ?_)
    refine lv_iload_n hx hb dX1_secondsOf_14 rfl (lv_at hl 1 rfl) ?_
    rcases (show sk < 1 ∨ sk = 1 ∨ sk = 2 ∨ sk = 3 ∨ 3 < sk by omega) with c15 | c15 | c15 | c15 | c15
    · refine lv_tableOut (tgt := 69) hx hb dX1_secondsOf_15 (Or.inl (by rw [nI_toInt (by omega)]; omega)) (by decide) ?_
      refine lv_iload_n hx hb dX1_secondsOf_69 rfl (lv_at hl 2 rfl) ?_
      refine lv_iload_n hx hb dX1_secondsOf_70 rfl (lv_at hl 3 rfl) ?_
      refine lv_iload hx hb dX1_secondsOf_71 (lv_at hl 5 rfl) ?_
      refine xmul hx hb dX1_secondsOf_73 ?_
      refine xadd hx hb dX1_secondsOf_74 ?_
      exact rtI F hP hD hS dX1_secondsOf_75 (⟨by congr 1; unfold sec0; (repeat' split) <;> first | rfl | omega, rfl⟩)
    · refine lv_tableIn (tgt := 40) hx hb dX1_secondsOf_15 (by rw [c15]; decide) (by rw [c15]; decide) (by rw [c15]; rfl) (by decide) ?_
      refine lv_iload_n hx hb dX1_secondsOf_40 rfl (lv_at hl 2 rfl) ?_
      refine lv_iload_n hx hb dX1_secondsOf_41 rfl (lv_at hl 3 rfl) ?_
      refine cSI (As := [.int (nI v), .int (nI i)]) (rest := []) F (c_X1_doubled l g v i (by omega)) kX1_doubled gX1_secondsOf_X1_doubled rfl rfl ⟨Nat.le_of_ble_eq_true rfl, Nat.le_of_ble_eq_true rfl⟩ hP hD hS [] [] rfl rfl hl.1 rfl rfl (Nat.le_of_ble_eq_true rfl) dX1_secondsOf_42 ⟨Nat.le_of_ble_eq_true rfl, Nat.le_of_ble_eq_true rfl⟩ (fun rz w1 H locs hpo hP hD hS => ?_)
      obtain ⟨rfl, rfl⟩ := hpo
      obtain ⟨hP, hD⟩ := nx (ws' := []) hP hD [] (ndB_ok _ rfl) rfl
      refine lv_iload hx hb dX1_secondsOf_45 (lv_at hl 0 rfl) ?_
      refine xadd hx hb dX1_secondsOf_47 ?_
      exact rtI F hP hD hS dX1_secondsOf_48 (⟨by congr 1; unfold sec0; (repeat' split) <;> first | rfl | omega, rfl⟩)
    · refine lv_tableIn (tgt := 49) hx hb dX1_secondsOf_15 (by rw [c15]; decide) (by rw [c15]; decide) (by rw [c15]; rfl) (by decide) ?_
      refine lv_iload_n hx hb dX1_secondsOf_49 rfl (lv_at hl 2 rfl) ?_
      refine lv_iload_n hx hb dX1_secondsOf_50 rfl (lv_at hl 3 rfl) ?_
      refine cSI (As := [.int (nI v), .int (nI i)]) (rest := []) F (c_X1_halfway l g v i (hv) (by omega)) kX1_halfway gX1_secondsOf_X1_halfway rfl rfl ⟨Nat.le_of_ble_eq_true rfl, Nat.le_of_ble_eq_true rfl⟩ hP hD hS [] [] rfl rfl hl.1 rfl rfl (Nat.le_of_ble_eq_true rfl) dX1_secondsOf_51 ⟨Nat.le_of_ble_eq_true rfl, Nat.le_of_ble_eq_true rfl⟩ (fun rz w1 H locs hpo hP hD hS => ?_)
      obtain ⟨rfl, rfl⟩ := hpo
      obtain ⟨hP, hD⟩ := nx (ws' := []) hP hD [] (ndB_ok _ rfl) rfl
      refine lv_iload hx hb dX1_secondsOf_54 (lv_at hl 0 rfl) ?_
      refine xadd hx hb dX1_secondsOf_56 ?_
      exact rtI F hP hD hS dX1_secondsOf_57 (⟨by congr 1; unfold sec0; (repeat' split) <;> first | rfl | omega, rfl⟩)
    · refine lv_tableIn (tgt := 58) hx hb dX1_secondsOf_15 (by rw [c15]; decide) (by rw [c15]; decide) (by rw [c15]; rfl) (by decide) ?_
      refine lv_iload_n hx hb dX1_secondsOf_58 rfl (lv_at hl 2 rfl) ?_
      refine lv_iload_n hx hb dX1_secondsOf_59 rfl (lv_at hl 4 rfl) ?_
      refine lv_iconst (v := (nI 1)) hx hb dX1_secondsOf_60 (by decide) ?_
      refine xsub hx hb (by omega) dX1_secondsOf_61 ?_
      refine lv_iload_n hx hb dX1_secondsOf_62 rfl (lv_at hl 3 rfl) ?_
      refine xsub hx hb (by omega) dX1_secondsOf_63 ?_
      refine lv_iload hx hb dX1_secondsOf_64 (lv_at hl 5 rfl) ?_
      refine xmul hx hb dX1_secondsOf_66 ?_
      refine xadd hx hb dX1_secondsOf_67 ?_
      exact rtI F hP hD hS dX1_secondsOf_68 (⟨by congr 1; unfold sec0; (repeat' split) <;> first | rfl | omega, rfl⟩)
    · refine lv_tableOut (tgt := 69) hx hb dX1_secondsOf_15 (Or.inr (by rw [nI_toInt (by omega)]; omega)) (by decide) ?_
      refine lv_iload_n hx hb dX1_secondsOf_69 rfl (lv_at hl 2 rfl) ?_
      refine lv_iload_n hx hb dX1_secondsOf_70 rfl (lv_at hl 3 rfl) ?_
      refine lv_iload hx hb dX1_secondsOf_71 (lv_at hl 5 rfl) ?_
      refine xmul hx hb dX1_secondsOf_73 ?_
      refine xadd hx hb dX1_secondsOf_74 ?_
      exact rtI F hP hD hS dX1_secondsOf_75 (⟨by congr 1; unfold sec0; (repeat' split) <;> first | rfl | omega, rfl⟩)
  · skip
    refine lv_iconst (v := (nI 0)) hx hb dX1_secondsOf_4 (by decide) ?_
    refine lv_goto (tgt := 12) hx hb dX1_secondsOf_5 (by decide) ?_
    refine lv_istore (lv' := [(5, .int (nI 0)), (0, .int (nI sk)), (1, .int (nI v)), (2, .int (nI i)), (3, .int (nI nb)), (4, .int (nI st))]) hx hb dX1_secondsOf_12 hl (by decide) rfl (fun ls hl => ?_)
    refine lv_iload_n hx hb dX1_secondsOf_14 rfl (lv_at hl 1 rfl) ?_
    rcases (show sk < 1 ∨ sk = 1 ∨ sk = 2 ∨ sk = 3 ∨ 3 < sk by omega) with c15 | c15 | c15 | c15 | c15
    · refine lv_tableOut (tgt := 69) hx hb dX1_secondsOf_15 (Or.inl (by rw [nI_toInt (by omega)]; omega)) (by decide) ?_
      refine lv_iload_n hx hb dX1_secondsOf_69 rfl (lv_at hl 2 rfl) ?_
      refine lv_iload_n hx hb dX1_secondsOf_70 rfl (lv_at hl 3 rfl) ?_
      refine lv_iload hx hb dX1_secondsOf_71 (lv_at hl 5 rfl) ?_
      refine xmul hx hb dX1_secondsOf_73 ?_
      refine xadd hx hb dX1_secondsOf_74 ?_
      exact rtI F hP hD hS dX1_secondsOf_75 (⟨by congr 1; unfold sec0; (repeat' split) <;> first | rfl | omega, rfl⟩)
    · refine lv_tableIn (tgt := 40) hx hb dX1_secondsOf_15 (by rw [c15]; decide) (by rw [c15]; decide) (by rw [c15]; rfl) (by decide) ?_
      refine lv_iload_n hx hb dX1_secondsOf_40 rfl (lv_at hl 2 rfl) ?_
      refine lv_iload_n hx hb dX1_secondsOf_41 rfl (lv_at hl 3 rfl) ?_
      refine cSI (As := [.int (nI v), .int (nI i)]) (rest := []) F (c_X1_doubled l g v i (by omega)) kX1_doubled gX1_secondsOf_X1_doubled rfl rfl ⟨Nat.le_of_ble_eq_true rfl, Nat.le_of_ble_eq_true rfl⟩ hP hD hS [] [] rfl rfl hl.1 rfl rfl (Nat.le_of_ble_eq_true rfl) dX1_secondsOf_42 ⟨Nat.le_of_ble_eq_true rfl, Nat.le_of_ble_eq_true rfl⟩ (fun rz w1 H locs hpo hP hD hS => ?_)
      obtain ⟨rfl, rfl⟩ := hpo
      obtain ⟨hP, hD⟩ := nx (ws' := []) hP hD [] (ndB_ok _ rfl) rfl
      refine lv_iload hx hb dX1_secondsOf_45 (lv_at hl 0 rfl) ?_
      refine xadd hx hb dX1_secondsOf_47 ?_
      exact rtI F hP hD hS dX1_secondsOf_48 (⟨by congr 1; unfold sec0; (repeat' split) <;> first | rfl | omega, rfl⟩)
    · refine lv_tableIn (tgt := 49) hx hb dX1_secondsOf_15 (by rw [c15]; decide) (by rw [c15]; decide) (by rw [c15]; rfl) (by decide) ?_
      refine lv_iload_n hx hb dX1_secondsOf_49 rfl (lv_at hl 2 rfl) ?_
      refine lv_iload_n hx hb dX1_secondsOf_50 rfl (lv_at hl 3 rfl) ?_
      refine cSI (As := [.int (nI v), .int (nI i)]) (rest := []) F (c_X1_halfway l g v i (hv) (by omega)) kX1_halfway gX1_secondsOf_X1_halfway rfl rfl ⟨Nat.le_of_ble_eq_true rfl, Nat.le_of_ble_eq_true rfl⟩ hP hD hS [] [] rfl rfl hl.1 rfl rfl (Nat.le_of_ble_eq_true rfl) dX1_secondsOf_51 ⟨Nat.le_of_ble_eq_true rfl, Nat.le_of_ble_eq_true rfl⟩ (fun rz w1 H locs hpo hP hD hS => ?_)
      obtain ⟨rfl, rfl⟩ := hpo
      obtain ⟨hP, hD⟩ := nx (ws' := []) hP hD [] (ndB_ok _ rfl) rfl
      refine lv_iload hx hb dX1_secondsOf_54 (lv_at hl 0 rfl) ?_
      refine xadd hx hb dX1_secondsOf_56 ?_
      exact rtI F hP hD hS dX1_secondsOf_57 (⟨by congr 1; unfold sec0; (repeat' split) <;> first | rfl | omega, rfl⟩)
    · refine lv_tableIn (tgt := 58) hx hb dX1_secondsOf_15 (by rw [c15]; decide) (by rw [c15]; decide) (by rw [c15]; rfl) (by decide) ?_
      refine lv_iload_n hx hb dX1_secondsOf_58 rfl (lv_at hl 2 rfl) ?_
      refine lv_iload_n hx hb dX1_secondsOf_59 rfl (lv_at hl 4 rfl) ?_
      refine lv_iconst (v := (nI 1)) hx hb dX1_secondsOf_60 (by decide) ?_
      refine xsub hx hb (by omega) dX1_secondsOf_61 ?_
      refine lv_iload_n hx hb dX1_secondsOf_62 rfl (lv_at hl 3 rfl) ?_
      refine xsub hx hb (by omega) dX1_secondsOf_63 ?_
      refine lv_iload hx hb dX1_secondsOf_64 (lv_at hl 5 rfl) ?_
      refine xmul hx hb dX1_secondsOf_66 ?_
      refine xadd hx hb dX1_secondsOf_67 ?_
      exact rtI F hP hD hS dX1_secondsOf_68 (⟨by congr 1; unfold sec0; (repeat' split) <;> first | rfl | omega, rfl⟩)
    · refine lv_tableOut (tgt := 69) hx hb dX1_secondsOf_15 (Or.inr (by rw [nI_toInt (by omega)]; omega)) (by decide) ?_
      refine lv_iload_n hx hb dX1_secondsOf_69 rfl (lv_at hl 2 rfl) ?_
      refine lv_iload_n hx hb dX1_secondsOf_70 rfl (lv_at hl 3 rfl) ?_
      refine lv_iload hx hb dX1_secondsOf_71 (lv_at hl 5 rfl) ?_
      refine xmul hx hb dX1_secondsOf_73 ?_
      refine xadd hx hb dX1_secondsOf_74 ?_
      exact rtI F hP hD hS dX1_secondsOf_75 (⟨by congr 1; unfold sec0; (repeat' split) <;> first | rfl | omega, rfl⟩)

theorem lkX1_soughtPast_2 : Cond.static Lib.Math.max.name ∈ wsX1_soughtPast := List.mem_of_getElem? (i := 2) rfl
theorem lkX1_soughtPast_3 : Cond.initialized "java/lang/Math" ∈ wsX1_soughtPast := List.mem_of_getElem? (i := 3) rfl
theorem lkX1_soughtPast_4 : Cond.code Lib.Math.max.name Lib.Math.max.code 2 (some .int) ∈ wsX1_soughtPast := List.mem_of_getElem? (i := 4) rfl
theorem lkX1_soughtPast_1 : Cond.methodLink RX1 47 Lib.Math.max.name ∈ wsX1_soughtPast := List.mem_of_getElem? (i := 1) rfl
theorem kX1_soughtPast : Cal yX1_soughtPast wsX1_soughtPast cX1_soughtPast 2 (some .int) 2 := ⟨⟨_, rfl⟩, by decide +kernel⟩
set_option maxHeartbeats 4000000 in
set_option maxRecDepth 100000 in
theorem c_X1_soughtPast (l : Launch) (g : EE) (ek : Nat) (fg : Nat) (he : ek ≤ 4) (hf : fg ≤ 9) : CI l yX1_soughtPast wsX1_soughtPast ({ frames := 1, cells := 0, slots := 0, locals := 13 }) g [.int (nI ek), .int (nI fg)] [] (fun (rz : Int32) (wz : va_W) => rz = (nI (soN ek fg 0)) ∧ wz = []) 0 0 := by
  refine ctI (cc := cX1_soughtPast) (maxL := 2) (ret := (some .int)) (by decide) rfl (Nat.le_of_ble_eq_true rfl) ?_
  intro p_ e_ s_ m_ bl_ mt_ cd_ A ls F hnm hP hD hS hl
  obtain ⟨hx, hb, hml, hown, hts, hK, hX, hA, hrt_, hlocks⟩ := id F
  have hl : lv_has ls 2 [(0, .int (nI ek)), (1, .int (nI fg))] := hl
  refine lv_iload_n hx hb dX1_soughtPast_0 rfl (lv_at hl 0 rfl) ?_
  refine lv_iconst (v := (nI 1)) hx hb dX1_soughtPast_1 (by decide) ?_
  refine xne (tgt := 7) hx hb dX1_soughtPast_2 (by decide) (by omega) (by omega) (fun c2 => ?_) (fun c2 => ?_)
  · skip
    refine lv_iload_n hx hb dX1_soughtPast_7 rfl (lv_at hl 0 rfl) ?_
    refine lv_iconst (v := (nI 2)) hx hb dX1_soughtPast_8 (by decide) ?_
    refine xne (tgt := 22) hx hb dX1_soughtPast_9 (by decide) (by omega) (by omega) (fun c9 => ?_) (fun c9 => ?_)
    · skip
      refine lv_iconst (v := (nI 0)) hx hb dX1_soughtPast_22 (by decide) ?_
      exact rtI F hP hD hS dX1_soughtPast_23 (⟨by congr 1; unfold soN; (repeat' split) <;> first | rfl | omega, rfl⟩)
    · skip
      refine lv_iconst (v := (nI 0)) hx hb dX1_soughtPast_12 (by decide) ?_
      refine lv_iload_n hx hb dX1_soughtPast_13 rfl (lv_at hl 1 rfl) ?_
      refine lv_iconst (v := (nI 1)) hx hb dX1_soughtPast_14 (by decide) ?_
      refine lv_isub hx hb dX1_soughtPast_15 ?_
      refine xmaxd F hl.1 lkX1_soughtPast_1 lkX1_soughtPast_2 lkX1_soughtPast_3 lkX1_soughtPast_4 (Nat.le_of_ble_eq_true rfl) (Nat.le_of_ble_eq_true rfl) ⟨Nat.le_of_ble_eq_true rfl, Nat.le_of_ble_eq_true rfl⟩ (by omega) (by omega) dX1_soughtPast_16 ?_
      refine lv_goto (tgt := 23) hx hb dX1_soughtPast_19 (by decide) ?_
      exact rtI F hP hD hS dX1_soughtPast_23 (⟨by congr 1; unfold soN; (repeat' split) <;> first | rfl | omega, rfl⟩)
  · skip
    refine lv_iload_n hx hb dX1_soughtPast_5 rfl (lv_at hl 1 rfl) ?_
    exact rtI F hP hD hS dX1_soughtPast_6 (⟨by congr 1; unfold soN; (repeat' split) <;> first | rfl | omega, rfl⟩)

theorem inX1_secondsAt_X1 : ∀ w ∈ u_ws RX1 TX1 2, w ∈ wsX1_secondsAt := fun _ h => (List.mem_cons_of_mem _ (List.mem_append_right _ h))
theorem lkX1_secondsAt_1 : Cond.fieldLink RX1 15 "StripInFiveSteps$Strip" "bands" "I" ∈ wsX1_secondsAt := List.mem_of_getElem? (i := 1) rfl
theorem lkX1_secondsAt_2 : Cond.fieldLink RX1 9 "StripInFiveSteps$Strip" "seconds" "[I" ∈ wsX1_secondsAt := List.mem_of_getElem? (i := 2) rfl
theorem kX1_secondsAt : Cal yX1_secondsAt wsX1_secondsAt cX1_secondsAt 2 (some .int) 1 := ⟨⟨_, rfl⟩, by decide +kernel⟩
set_option maxHeartbeats 4000000 in
set_option maxRecDepth 100000 in
theorem c_X1_secondsAt (l : Launch) (g : EE) (h0 : Nat) (h1 : Nat) (q : Nat → Nat) (n : Nat) (i : Nat) (hi : i < n) (hn : n ≤ 7) : CI l yX1_secondsAt wsX1_secondsAt ({ frames := 0, cells := 0, slots := 0, locals := 0 }) g [.ref h0, .int (nI i)] [(h0, .inr (1, [.ref h1, .int (nI n)])), (h1, .inl (eI g, 7, .inl (fun j => nI (q j))))] (fun (rz : Int32) (wz : va_W) => rz = (nI (q i)) ∧ wz = [(h0, .inr (1, [.ref h1, .int (nI n)])), (h1, .inl (eI g, 7, .inl (fun j => nI (q j))))]) 0 0 := by
  refine ctI (cc := cX1_secondsAt) (maxL := 2) (ret := (some .int)) (by decide) rfl (Nat.le_of_ble_eq_true rfl) ?_
  intro p_ e_ s_ m_ bl_ mt_ cd_ A ls F hnm hP hD hS hl
  obtain ⟨hx, hb, hml, hown, hts, hK, hX, hA, hrt_, hlocks⟩ := id F
  have hl : lv_has ls 2 [(0, .ref h0), (1, .int (nI i))] := hl
  refine lv_iload_n hx hb dX1_secondsAt_0 rfl (lv_at hl 1 rfl) ?_
  refine zlt (tgt := 21) hx hb dX1_secondsAt_1 (by decide) (by omega) ?_
  refine lv_iload_n hx hb dX1_secondsAt_4 rfl (lv_at hl 1 rfl) ?_
  refine lv_aload_n hx hb dX1_secondsAt_5 rfl (lv_at hl 0 rfl) ?_
  refine xget F hP inX1_secondsAt_X1 0 rfl rfl 1 (by decide) lkX1_secondsAt_1 rfl dX1_secondsAt_6 ?_
  refine xge (tgt := 21) hx hb dX1_secondsAt_9 (by decide) (by omega) (by omega) (fun c9 => ?_) (fun c9 => ?_)
  · skip
    refine lv_bipush (v := (-9)) hx hb dX1_secondsAt_21 (by decide) ?_
    exact rtI F hP hD hS dX1_secondsAt_23 (⟨by first | rfl | (exfalso; omega), rfl⟩)
  · skip
    refine lv_aload_n hx hb dX1_secondsAt_12 rfl (lv_at hl 0 rfl) ?_
    refine xget F hP inX1_secondsAt_X1 0 rfl rfl 0 (by decide) lkX1_secondsAt_2 rfl dX1_secondsAt_13 ?_
    refine lv_iload_n hx hb dX1_secondsAt_16 rfl (lv_at hl 1 rfl) ?_
    refine xald F hP 1 (v := (nI (q i))) rfl (by omega) (by omega) rfl dX1_secondsAt_17 ?_
    refine lv_goto (tgt := 23) hx hb dX1_secondsAt_18 (by decide) ?_
    exact rtI F hP hD hS dX1_secondsAt_23 (⟨by first | rfl | (exfalso; omega), rfl⟩)

theorem inX1_lay_X0 : ∀ w ∈ u_ws RX0 TX0 5, w ∈ wsX1_lay := fun _ h => (List.mem_cons_of_mem _ (List.mem_append_left _ (List.mem_append_right _ h)))
theorem lkX1_lay_1 : Cond.fieldLink RX1 19 "StripInFiveSteps$Shed" "numbers" "[I" ∈ wsX1_lay := List.mem_of_getElem? (i := 1) rfl
theorem lkX1_lay_3 : Cond.static Lib.Math.min.name ∈ wsX1_lay := List.mem_of_getElem? (i := 3) rfl
theorem lkX1_lay_4 : Cond.initialized "java/lang/Math" ∈ wsX1_lay := List.mem_of_getElem? (i := 4) rfl
theorem lkX1_lay_5 : Cond.code Lib.Math.min.name Lib.Math.min.code 2 (some .int) ∈ wsX1_lay := List.mem_of_getElem? (i := 5) rfl
theorem lkX1_lay_2 : Cond.methodLink RX1 24 Lib.Math.min.name ∈ wsX1_lay := List.mem_of_getElem? (i := 2) rfl
theorem inX1_lay_X1 : ∀ w ∈ u_ws RX1 TX1 2, w ∈ wsX1_lay := fun _ h => (List.mem_cons_of_mem _ (List.mem_append_right _ h))
theorem lkX1_lay_6 : Cond.fieldLink RX1 15 "StripInFiveSteps$Strip" "bands" "I" ∈ wsX1_lay := List.mem_of_getElem? (i := 6) rfl
theorem lkX1_lay_7 : Cond.fieldLink RX1 9 "StripInFiveSteps$Strip" "seconds" "[I" ∈ wsX1_lay := List.mem_of_getElem? (i := 7) rfl
theorem kX1_lay : Cal yX1_lay wsX1_lay cX1_lay 5 none 3 := ⟨⟨_, rfl⟩, by decide +kernel⟩
set_option maxHeartbeats 4000000 in
set_option maxRecDepth 100000 in
theorem c_X1_lay (l : Launch) (g : EE) (h0 : Nat) (h1 : Nat) (h2 : Nat) (h3 : Nat) (h4 : Nat) (q : Nat → Nat) (n : Nat) (B : Nat → Nat) (sk : Nat) (ek : Nat) (tr : Nat) (k : Nat) (v : Nat) (hk : k ≤ 3) (hv : v ≤ 40) (h7 : B 0 ≤ 7) (h1s : 1 ≤ B 1) (h9 : B 1 ≤ 9) : CV l yX1_lay wsX1_lay ({ frames := 2, cells := 0, slots := 0, locals := 48 }) g [.ref h0, .ref h2, .int (nI k), .int (nI v)] [(h0, .inr (1, [.ref h1, .int (nI n)])), (h1, .inl (eI g, 7, .inl (fun j => nI (q j)))), (h2, .inr (0, [.ref h3, .ref h4, .int (nI sk), .int (nI ek), .int (nI tr)])), (h4, .inl (eI g, 5, .inl (fun j => nI (B j))))] (fun (wz : va_W) => wz = [(h0, .inr (1, [.ref h1, .int (nI (B 0))])), (h1, .inl (eI g, 7, .inl (fun j => nI ((layQ k (B 0) (B 1) v q (B 0)) j)))), (h2, .inr (0, [.ref h3, .ref h4, .int (nI sk), .int (nI ek), .int (nI tr)])), (h4, .inl (eI g, 5, .inl (fun j => nI (B j))))]) 0 0 := by
  refine ctV (cc := cX1_lay) (maxL := 5) (ret := none) (by decide) rfl (Nat.le_of_ble_eq_true rfl) ?_
  intro p_ e_ s_ m_ bl_ mt_ cd_ A ls F hnm hP hD hS hl
  obtain ⟨hx, hb, hml, hown, hts, hK, hX, hA, hrt_, hlocks⟩ := id F
  have hl : lv_has ls 5 [(0, .ref h0), (1, .ref h2), (2, .int (nI k)), (3, .int (nI v))] := hl
  refine lv_aload_n hx hb dX1_lay_0 rfl (lv_at hl 0 rfl) ?_
  refine lv_aload_n hx hb dX1_lay_1 rfl (lv_at hl 1 rfl) ?_
  refine xget F hP inX1_lay_X0 2 rfl rfl 1 (by decide) lkX1_lay_1 rfl dX1_lay_2 ?_
  refine lv_iconst (v := (nI 0)) hx hb dX1_lay_5 (by decide) ?_
  refine xald F hP 3 (v := (nI (B 0))) rfl (by omega) (by omega) rfl dX1_lay_6 ?_
  refine lv_bipush (v := (nI 7)) hx hb dX1_lay_7 (by decide) ?_
  refine xmin F hl.1 lkX1_lay_2 lkX1_lay_3 lkX1_lay_4 lkX1_lay_5 (Nat.le_of_ble_eq_true rfl) (Nat.le_of_ble_eq_true rfl) ⟨Nat.le_of_ble_eq_true rfl, Nat.le_of_ble_eq_true rfl⟩ (by omega) (by omega) dX1_lay_9 ?_
  refine sti (congrArg nI (show min (B 0) 7 = B 0 from by omega)) ?_
  refine xput F hP hD hS inX1_lay_X1 tyX1 tyX1_ok nmX1 0 rfl rfl 1 (by decide) lkX1_lay_6 rfl rfl rfl (Nat.le_of_ble_eq_true rfl) dX1_lay_12 (fun H locs hP hD hS => ?_)
  have hP : va_P (eD g) vwCl [(h0, .inr (1, [.ref h1, .int (nI (B 0))])), (h1, .inl (eI g, 7, .inl (fun j => nI (q j)))), (h2, .inr (0, [.ref h3, .ref h4, .int (nI sk), .int (nI ek), .int (nI tr)])), (h4, .inl (eI g, 5, .inl (fun j => nI (B j))))] H := hP
  have hD : va_D A [(h0, .inr (1, [.ref h1, .int (nI (B 0))])), (h1, .inl (eI g, 7, .inl (fun j => nI (q j)))), (h2, .inr (0, [.ref h3, .ref h4, .int (nI sk), .int (nI ek), .int (nI tr)])), (h4, .inl (eI g, 5, .inl (fun j => nI (B j))))] := hD
  refine lv_iconst (v := (nI 0)) hx hb dX1_lay_15 (by decide) ?_
  refine lv_istore (lv' := [(4, .int (nI 0)), (0, .ref h0), (1, .ref h2), (2, .int (nI k)), (3, .int (nI v))]) hx hb dX1_lay_16 hl (by decide) rfl (fun ls hl => ?_)
  refine xlo (σ := Nat × (Nat → Nat)) 5 (fun xz_ => (fun (i : Nat) (qq : Nat → Nat) => [(0, .ref h0), (1, .ref h2), (2, .int (nI k)), (3, .int (nI v)), (4, .int (nI i))]) xz_.1 xz_.2) (fun xz_ => (fun (i : Nat) (qq : Nat → Nat) => [(h0, .inr (1, [.ref h1, .int (nI (B 0))])), (h1, .inl (eI g, 7, .inl (fun j => nI (qq j)))), (h2, .inr (0, [.ref h3, .ref h4, .int (nI sk), .int (nI ek), .int (nI tr)])), (h4, .inl (eI g, 5, .inl (fun j => nI (B j))))]) xz_.1 xz_.2) (fun xz_ => (fun (i : Nat) (qq : Nat → Nat) => qq = layQ k (B 0) (B 1) v q i ∧ i ≤ B 0) xz_.1 xz_.2) (fun xz_ => (fun (i : Nat) (qq : Nat → Nat) => B 0 - i) xz_.1 xz_.2) (fun xz_ hI ih18 H locs ls hP hD hS hl => ?_) (0, q) (show q = layQ k (B 0) (B 1) v q 0 ∧ 0 ≤ B 0 from (⟨(layQ_0 _ _ _ _ _).symm, by omega⟩)) hP hD hS (lv_sub hl [1, 2, 3, 4, 0] rfl)
  obtain ⟨i, qq⟩ := xz_
  have hP : va_P (eD g) vwCl [(h0, .inr (1, [.ref h1, .int (nI (B 0))])), (h1, .inl (eI g, 7, .inl (fun j => nI (qq j)))), (h2, .inr (0, [.ref h3, .ref h4, .int (nI sk), .int (nI ek), .int (nI tr)])), (h4, .inl (eI g, 5, .inl (fun j => nI (B j))))] H := hP
  have hD : va_D A [(h0, .inr (1, [.ref h1, .int (nI (B 0))])), (h1, .inl (eI g, 7, .inl (fun j => nI (qq j)))), (h2, .inr (0, [.ref h3, .ref h4, .int (nI sk), .int (nI ek), .int (nI tr)])), (h4, .inl (eI g, 5, .inl (fun j => nI (B j))))] := hD
  have hl : lv_has ls 5 [(0, .ref h0), (1, .ref h2), (2, .int (nI k)), (3, .int (nI v)), (4, .int (nI i))] := hl
  have hI18 : qq = layQ k (B 0) (B 1) v q i ∧ i ≤ B 0 := hI
  clear hI
  obtain ⟨hq, hi⟩ := id hI18
  have hs0 : i < B 0 → sec0 k (B 0) (B 1) v i ≤ 3000 := fun h => sec0_b hv (by omega) h7 h9
  refine lv_iload hx hb dX1_lay_18 (lv_at hl 4 rfl) ?_
  refine lv_aload_n hx hb dX1_lay_20 rfl (lv_at hl 0 rfl) ?_
  refine xget F hP inX1_lay_X1 0 rfl rfl 1 (by decide) lkX1_lay_6 rfl dX1_lay_21 ?_
  refine xge (tgt := 63) hx hb dX1_lay_24 (by decide) (by omega) (by omega) (fun c24 => ?_) (fun c24 => ?_)
  · skip
    exact rtV F hP hD hS dX1_lay_63 (by rw [hq, show i = B 0 by omega])
  · skip
    refine lv_aload_n hx hb dX1_lay_27 rfl (lv_at hl 0 rfl) ?_
    refine xget F hP inX1_lay_X1 0 rfl rfl 0 (by decide) lkX1_lay_7 rfl dX1_lay_28 ?_
    refine lv_iload hx hb dX1_lay_31 (lv_at hl 4 rfl) ?_
    refine lv_sipush (v := (nI 240)) hx hb dX1_lay_33 (by decide) ?_
    refine lv_iload_n hx hb dX1_lay_36 rfl (lv_at hl 2 rfl) ?_
    refine lv_iload_n hx hb dX1_lay_37 rfl (lv_at hl 3 rfl) ?_
    refine lv_iload hx hb dX1_lay_38 (lv_at hl 4 rfl) ?_
    refine lv_aload_n hx hb dX1_lay_40 rfl (lv_at hl 0 rfl) ?_
    refine xget F hP inX1_lay_X1 0 rfl rfl 1 (by decide) lkX1_lay_6 rfl dX1_lay_41 ?_
    refine lv_aload_n hx hb dX1_lay_44 rfl (lv_at hl 1 rfl) ?_
    refine xget F hP inX1_lay_X0 2 rfl rfl 1 (by decide) lkX1_lay_1 rfl dX1_lay_45 ?_
    refine lv_iconst (v := (nI 1)) hx hb dX1_lay_48 (by decide) ?_
    refine xald F hP 3 (v := (nI (B 1))) rfl (by omega) (by omega) rfl dX1_lay_49 ?_
    refine cSI (As := [.int (nI k), .int (nI v), .int (nI i), .int (nI (B 0)), .int (nI (B 1))]) (rest := [.int (nI 240), .int (nI i), .ref h1]) F (c_X1_secondsOf l g k v i (B 0) (B 1) (hk) (hv) (by omega) (h7) (h1s)) kX1_secondsOf gX1_lay_X1_secondsOf rfl rfl ⟨Nat.le_of_ble_eq_true rfl, Nat.le_of_ble_eq_true rfl⟩ hP hD hS [] [0, 1, 2, 3] rfl rfl hl.1 rfl rfl (Nat.le_of_ble_eq_true rfl) dX1_lay_50 ⟨Nat.le_of_ble_eq_true rfl, Nat.le_of_ble_eq_true rfl⟩ (fun rz w1 H locs hpo hP hD hS => ?_)
    obtain ⟨rfl, rfl⟩ := hpo
    obtain ⟨hP, hD⟩ := nx (ws' := [(h0, .inr (1, [.ref h1, .int (nI (B 0))])), (h1, .inl (eI g, 7, .inl (fun j => nI (qq j)))), (h2, .inr (0, [.ref h3, .ref h4, .int (nI sk), .int (nI ek), .int (nI tr)])), (h4, .inl (eI g, 5, .inl (fun j => nI (B j))))]) hP hD [0, 1, 2, 3] (ndB_ok _ rfl) rfl
    refine xmin F hl.1 lkX1_lay_2 lkX1_lay_3 lkX1_lay_4 lkX1_lay_5 (Nat.le_of_ble_eq_true rfl) (Nat.le_of_ble_eq_true rfl) ⟨Nat.le_of_ble_eq_true rfl, Nat.le_of_ble_eq_true rfl⟩ (by omega) (by have := hs0 (by omega); omega) dX1_lay_53 ?_
    refine sti (congrArg nI (show min 240 (sec0 k (B 0) (B 1) v i) = secN k (B 0) (B 1) v i from rfl)) ?_
    refine xast F hP hD hS 1 (f' := fun j => nI ((updN qq i (secN k (B 0) (B 1) v i)) j)) rfl (by omega) (by omega) (upd_nI qq i (secN k (B 0) (B 1) v i)) dX1_lay_56 (fun H locs hP hD hS => ?_)
    have hP : va_P (eD g) vwCl [(h0, .inr (1, [.ref h1, .int (nI (B 0))])), (h1, .inl (eI g, 7, .inl (fun j => nI ((updN qq i (secN k (B 0) (B 1) v i)) j)))), (h2, .inr (0, [.ref h3, .ref h4, .int (nI sk), .int (nI ek), .int (nI tr)])), (h4, .inl (eI g, 5, .inl (fun j => nI (B j))))] H := hP
    have hD : va_D A [(h0, .inr (1, [.ref h1, .int (nI (B 0))])), (h1, .inl (eI g, 7, .inl (fun j => nI ((updN qq i (secN k (B 0) (B 1) v i)) j)))), (h2, .inr (0, [.ref h3, .ref h4, .int (nI sk), .int (nI ek), .int (nI tr)])), (h4, .inl (eI g, 5, .inl (fun j => nI (B j))))] := hD
    refine lv_iinc (v := (nI (i + 1))) (lv' := [(4, .int (nI (i + 1))), (0, .ref h0), (1, .ref h2), (2, .int (nI k)), (3, .int (nI v))]) hx hb dX1_lay_57 hl (k := 4) rfl (iincP i 1) (by decide) rfl (fun ls hl => ?_)
    refine lv_goto (tgt := 18) hx hb dX1_lay_60 (by decide) ?_
    exact ih18 (i + 1, (updN qq i (secN k (B 0) (B 1) v i))) (show (updN qq i (secN k (B 0) (B 1) v i)) = layQ k (B 0) (B 1) v q (i + 1) ∧ (i + 1) ≤ B 0 from (⟨by rw [hq]; exact layQ_step _ _ _ _ _ _, by omega⟩)) (show B 0 - (i + 1) < B 0 - i from (by omega)) _ _ _ hP hD hS (lv_sub hl [1, 2, 3, 4, 0] rfl)

theorem inX1_tell_X1 : ∀ w ∈ u_ws RX1 TX1 2, w ∈ wsX1_tell := fun _ h => (List.mem_cons_of_mem _ (List.mem_append_right _ h))
theorem lkX1_tell_1 : Cond.fieldLink RX1 9 "StripInFiveSteps$Strip" "seconds" "[I" ∈ wsX1_tell := List.mem_of_getElem? (i := 1) rfl
theorem lkX1_tell_3 : Cond.static Lib.Math.abs.name ∈ wsX1_tell := List.mem_of_getElem? (i := 3) rfl
theorem lkX1_tell_4 : Cond.initialized "java/lang/Math" ∈ wsX1_tell := List.mem_of_getElem? (i := 4) rfl
theorem lkX1_tell_5 : Cond.code Lib.Math.abs.name Lib.Math.abs.code 1 (some .int) ∈ wsX1_tell := List.mem_of_getElem? (i := 5) rfl
theorem lkX1_tell_2 : Cond.methodLink RX1 43 Lib.Math.abs.name ∈ wsX1_tell := List.mem_of_getElem? (i := 2) rfl
theorem lkX1_tell_6 : Cond.fieldLink RX1 15 "StripInFiveSteps$Strip" "bands" "I" ∈ wsX1_tell := List.mem_of_getElem? (i := 6) rfl
theorem kX1_tell : Cal yX1_tell wsX1_tell cX1_tell 11 (some .int) 3 := ⟨⟨_, rfl⟩, by decide +kernel⟩
set_option maxHeartbeats 4000000 in
set_option maxRecDepth 100000 in
theorem c_X1_tell (l : Launch) (g : EE) (h0 : Nat) (h1 : Nat) (q : Nat → Nat) (nb : Nat) (ek : Nat) (fg : Nat) (r : Nat) (h1n : 1 ≤ nb) (h7 : nb ≤ 7) (hq : ∀ j, j < nb → q j ≤ 240) (he : ek ≤ 4) (hf : fg ≤ 9) (hr : r ≤ 40) : CI l yX1_tell wsX1_tell ({ frames := 2, cells := 0, slots := 0, locals := 34 }) g [.ref h0, .int (nI ek), .int (nI fg), .int (nI r)] [(h0, .inr (1, [.ref h1, .int (nI nb)])), (h1, .inl (eI g, 7, .inl (fun j => nI (q j))))] (fun (rz : Int32) (wz : va_W) => rz = (nI (tellQ q nb ek fg r)) ∧ wz = [(h0, .inr (1, [.ref h1, .int (nI nb)])), (h1, .inl (eI g, 7, .inl (fun j => nI (q j))))]) 0 0 := by
  refine ctI (cc := cX1_tell) (maxL := 11) (ret := (some .int)) (by decide) rfl (Nat.le_of_ble_eq_true rfl) ?_
  intro p_ e_ s_ m_ bl_ mt_ cd_ A ls F hnm hP hD hS hl
  obtain ⟨hx, hb, hml, hown, hts, hK, hX, hA, hrt_, hlocks⟩ := id F
  have hl : lv_has ls 11 [(0, .ref h0), (1, .int (nI ek)), (2, .int (nI fg)), (3, .int (nI r))] := hl
  have hso : soN ek fg r ≤ 60 := soN_b he hf hr
  have hd0 : ∀ j, j < nb → dst (q j) (soN ek fg r) ≤ 300 := fun j hj => dst_le (by have := hq j hj; omega) (by omega)
  refine lv_iload_n hx hb dX1_tell_0 rfl (lv_at hl 3 rfl) ?_
  refine lv_iload_n hx hb dX1_tell_1 rfl (lv_at hl 1 rfl) ?_
  refine lv_iload_n hx hb dX1_tell_2 rfl (lv_at hl 2 rfl) ?_
  refine cSI (As := [.int (nI ek), .int (nI fg)]) (rest := [.int (nI r)]) F (c_X1_soughtPast l g ek fg (he) (hf)) kX1_soughtPast gX1_tell_X1_soughtPast rfl rfl ⟨Nat.le_of_ble_eq_true rfl, Nat.le_of_ble_eq_true rfl⟩ hP hD hS [] [0, 1] rfl rfl hl.1 rfl rfl (Nat.le_of_ble_eq_true rfl) dX1_tell_3 ⟨Nat.le_of_ble_eq_true rfl, Nat.le_of_ble_eq_true rfl⟩ (fun rz w1 H locs hpo hP hD hS => ?_)
  obtain ⟨rfl, rfl⟩ := hpo
  obtain ⟨hP, hD⟩ := nx (ws' := [(h0, .inr (1, [.ref h1, .int (nI nb)])), (h1, .inl (eI g, 7, .inl (fun j => nI (q j))))]) hP hD [0, 1] (ndB_ok _ rfl) rfl
  refine xadd hx hb dX1_tell_6 ?_
  refine sti (congrArg nI (show r + (soN ek fg 0) = soN ek fg r from soN_add ek fg r)) ?_
  refine lv_istore (lv' := [(4, .int (nI (soN ek fg r))), (0, .ref h0), (1, .int (nI ek)), (2, .int (nI fg)), (3, .int (nI r))]) hx hb dX1_tell_7 hl (by decide) rfl (fun ls hl => ?_)
  refine xjo (A := A) (g := g) (σ := Nat) 24 11 (fun (z : Nat) => [(0, .ref h0), (1, .int (nI ek)), (2, .int (nI fg)), (3, .int (nI r)), (4, .int (nI (soN ek fg r)))]) (fun (z : Nat) => [(h0, .inr (1, [.ref h1, .int (nI nb)])), (h1, .inl (eI g, 7, .inl (fun j => nI (q j))))]) (fun (z : Nat) => [.int (nI z)]) (fun (z : Nat) => z = (if slN ek = true then 1 else 0)) (fun jn24 => ?_) (fun xz_ hI H locs ls hP hD hS hl => ?_)
  · skip
    refine lv_iload_n hx hb dX1_tell_9 rfl (lv_at hl 2 rfl) ?_
    refine lv_iconst (v := (nI 3)) hx hb dX1_tell_10 (by decide) ?_
    refine xeq (tgt := 19) hx hb dX1_tell_11 (by decide) (by omega) (by omega) (fun c11 => ?_) (fun c11 => ?_)
    · skip
      refine lv_iconst (v := (nI 1)) hx hb dX1_tell_19 (by decide) ?_
      refine lv_goto (tgt := 24) hx hb dX1_tell_20 (by decide) ?_
      exact jn24 1 (show 1 = (if slN ek = true then 1 else 0) from (by simp [slN, *])) _ _ _ hP hD hS (lv_sub hl [1, 2, 3, 4, 0] rfl)
    · skip
      refine lv_iload_n hx hb dX1_tell_14 rfl (lv_at hl 2 rfl) ?_
      refine lv_iconst (v := (nI 4)) hx hb dX1_tell_15 (by decide) ?_
      refine xne (tgt := 23) hx hb dX1_tell_16 (by decide) (by omega) (by omega) (fun c16 => ?_) (fun c16 => ?_)
      · skip
        refine lv_iconst (v := (nI 0)) hx hb dX1_tell_23 (by decide) ?_
        exact jn24 0 (show 0 = (if slN ek = true then 1 else 0) from (by simp [slN, *])) _ _ _ hP hD hS (lv_sub hl [1, 2, 3, 4, 0] rfl)
      · skip
        refine lv_iconst (v := (nI 1)) hx hb dX1_tell_19 (by decide) ?_
        refine lv_goto (tgt := 24) hx hb dX1_tell_20 (by decide) ?_
        exact jn24 1 (show 1 = (if slN ek = true then 1 else 0) from (by simp [slN, *])) _ _ _ hP hD hS (lv_sub hl [1, 2, 3, 4, 0] rfl)
  · skip
    obtain ⟨z, rfl⟩ : ∃ z, z = xz_ := ⟨_, rfl⟩
    have hP : va_P (eD g) vwCl [(h0, .inr (1, [.ref h1, .int (nI nb)])), (h1, .inl (eI g, 7, .inl (fun j => nI (q j))))] H := hP
    have hD : va_D A [(h0, .inr (1, [.ref h1, .int (nI nb)])), (h1, .inl (eI g, 7, .inl (fun j => nI (q j))))] := hD
    have hl : lv_has ls 11 [(0, .ref h0), (1, .int (nI ek)), (2, .int (nI fg)), (3, .int (nI r)), (4, .int (nI (soN ek fg r)))] := hl
    have hI24 : z = (if slN ek = true then 1 else 0) := hI
    clear hI
    have hzb : z ≤ 1 := by rw [hI24]; split <;> omega
    refine lv_istore (lv' := [(5, .int (nI z)), (0, .ref h0), (1, .int (nI ek)), (2, .int (nI fg)), (3, .int (nI r)), (4, .int (nI (soN ek fg r)))]) hx hb dX1_tell_24 hl (by decide) rfl (fun ls hl => ?_)
    refine lv_iconst (v := (nI 0)) hx hb dX1_tell_26 (by decide) ?_
    refine lv_istore (lv' := [(6, .int (nI 0)), (5, .int (nI z)), (0, .ref h0), (1, .int (nI ek)), (2, .int (nI fg)), (3, .int (nI r)), (4, .int (nI (soN ek fg r)))]) hx hb dX1_tell_27 hl (by decide) rfl (fun ls hl => ?_)
    refine lv_aload_n hx hb dX1_tell_29 rfl (lv_at hl 2 rfl) ?_
    refine xget F hP inX1_tell_X1 0 rfl rfl 0 (by decide) lkX1_tell_1 rfl dX1_tell_30 ?_
    refine lv_iconst (v := (nI 0)) hx hb dX1_tell_33 (by decide) ?_
    refine xald F hP 1 (v := (nI (q 0))) rfl (by omega) (by omega) rfl dX1_tell_34 ?_
    have hbd2 := hq (0) (by omega)
    refine lv_iload hx hb dX1_tell_35 (lv_at hl 6 rfl) ?_
    refine lv_isub hx hb dX1_tell_37 ?_
    refine xabs F hl.1 lkX1_tell_2 lkX1_tell_3 lkX1_tell_4 lkX1_tell_5 (Nat.le_of_ble_eq_true rfl) (Nat.le_of_ble_eq_true rfl) ⟨Nat.le_of_ble_eq_true rfl, Nat.le_of_ble_eq_true rfl⟩ (by omega) (by omega) dX1_tell_38 ?_
    refine lv_istore (lv' := [(7, .int (nI (dst (q 0) (soN ek fg r)))), (6, .int (nI 0)), (5, .int (nI z)), (0, .ref h0), (1, .int (nI ek)), (2, .int (nI fg)), (3, .int (nI r)), (4, .int (nI (soN ek fg r)))]) hx hb dX1_tell_41 hl (by decide) rfl (fun ls hl => ?_)
    refine lv_iconst (v := (nI 1)) hx hb dX1_tell_43 (by decide) ?_
    refine lv_istore (lv' := [(8, .int (nI 1)), (7, .int (nI (dst (q 0) (soN ek fg r)))), (6, .int (nI 0)), (5, .int (nI z)), (0, .ref h0), (1, .int (nI ek)), (2, .int (nI fg)), (3, .int (nI r)), (4, .int (nI (soN ek fg r)))]) hx hb dX1_tell_44 hl (by decide) rfl (fun ls hl => ?_)
    refine xlo (σ := Nat × Nat × Nat) 11 (fun xz_ => (fun (i : Nat) (f : Nat) (le : Nat) => [(0, .ref h0), (1, .int (nI ek)), (2, .int (nI fg)), (3, .int (nI r)), (4, .int (nI (soN ek fg r))), (5, .int (nI z)), (6, .int (nI f)), (7, .int (nI le)), (8, .int (nI i))]) xz_.1 xz_.2.1 xz_.2.2) (fun xz_ => (fun (i : Nat) (f : Nat) (le : Nat) => [(h0, .inr (1, [.ref h1, .int (nI nb)])), (h1, .inl (eI g, 7, .inl (fun j => nI (q j))))]) xz_.1 xz_.2.1 xz_.2.2) (fun xz_ => (fun (i : Nat) (f : Nat) (le : Nat) => f = nearQ q (soN ek fg r) (slN ek) (i - 1) ∧ le = dst (q f) (soN ek fg r) ∧ 1 ≤ i ∧ i ≤ nb) xz_.1 xz_.2.1 xz_.2.2) (fun xz_ => (fun (i : Nat) (f : Nat) (le : Nat) => nb - i) xz_.1 xz_.2.1 xz_.2.2) (fun xz_ hI ih46 H locs ls hP hD hS hl => ?_) (1, 0, dst (q 0) (soN ek fg r)) (show 0 = nearQ q (soN ek fg r) (slN ek) (1 - 1) ∧ (dst (q 0) (soN ek fg r)) = dst (q 0) (soN ek fg r) ∧ 1 ≤ 1 ∧ 1 ≤ nb from (⟨rfl, rfl, by omega, by omega⟩)) hP hD hS (lv_sub hl [4, 5, 6, 7, 8, 3, 2, 1, 0] rfl)
    obtain ⟨i, f, le⟩ := xz_
    have hP : va_P (eD g) vwCl [(h0, .inr (1, [.ref h1, .int (nI nb)])), (h1, .inl (eI g, 7, .inl (fun j => nI (q j))))] H := hP
    have hD : va_D A [(h0, .inr (1, [.ref h1, .int (nI nb)])), (h1, .inl (eI g, 7, .inl (fun j => nI (q j))))] := hD
    have hl : lv_has ls 11 [(0, .ref h0), (1, .int (nI ek)), (2, .int (nI fg)), (3, .int (nI r)), (4, .int (nI (soN ek fg r))), (5, .int (nI z)), (6, .int (nI f)), (7, .int (nI le)), (8, .int (nI i))] := hl
    have hI46 : f = nearQ q (soN ek fg r) (slN ek) (i - 1) ∧ le = dst (q f) (soN ek fg r) ∧ 1 ≤ i ∧ i ≤ nb := hI
    clear hI
    obtain ⟨hf0, hle, hi1, hi2⟩ := id hI46
    have hfl : f ≤ i - 1 := by rw [hf0]; exact nearQ_le _ _ _ _
    have hlb : le ≤ 300 := by rw [hle]; exact hd0 f (by omega)
    have hib : i < nb → dst (q i) (soN ek fg r) ≤ 300 := hd0 i
    refine lv_iload hx hb dX1_tell_46 (lv_at hl 8 rfl) ?_
    refine lv_aload_n hx hb dX1_tell_48 rfl (lv_at hl 0 rfl) ?_
    refine xget F hP inX1_tell_X1 0 rfl rfl 1 (by decide) lkX1_tell_6 rfl dX1_tell_49 ?_
    refine xge (tgt := 157) hx hb dX1_tell_52 (by decide) (by omega) (by omega) (fun c52 => ?_) (fun c52 => ?_)
    · skip
      refine lv_iload_n hx hb dX1_tell_157 rfl (lv_at hl 1 rfl) ?_
      refine lv_iconst (v := (nI 4)) hx hb dX1_tell_158 (by decide) ?_
      refine xne (tgt := 173) hx hb dX1_tell_159 (by decide) (by omega) (by omega) (fun c159 => ?_) (fun c159 => ?_)
      · skip
        refine lv_iload hx hb dX1_tell_173 (lv_at hl 6 rfl) ?_
        exact rtI F hP hD hS dX1_tell_175 (⟨by congr 1; unfold tellQ; rw [show nb - 1 = i - 1 by omega, ← hf0, ← hle]; first | rw [if_pos ⟨by omega, by omega⟩] | rw [if_neg (by intro hh; omega)], rfl⟩)
      · skip
        refine lv_iload hx hb dX1_tell_162 (lv_at hl 7 rfl) ?_
        refine lv_iload_n hx hb dX1_tell_164 rfl (lv_at hl 2 rfl) ?_
        refine xle (tgt := 173) hx hb dX1_tell_165 (by decide) (by omega) (by omega) (fun c165 => ?_) (fun c165 => ?_)
        · skip
          refine lv_iload hx hb dX1_tell_173 (lv_at hl 6 rfl) ?_
          exact rtI F hP hD hS dX1_tell_175 (⟨by congr 1; unfold tellQ; rw [show nb - 1 = i - 1 by omega, ← hf0, ← hle]; first | rw [if_pos ⟨by omega, by omega⟩] | rw [if_neg (by intro hh; omega)], rfl⟩)
        · skip
          refine lv_bipush (v := (nI 8)) hx hb dX1_tell_168 (by decide) ?_
          refine lv_goto (tgt := 175) hx hb dX1_tell_170 (by decide) ?_
          exact rtI F hP hD hS dX1_tell_175 (⟨by congr 1; unfold tellQ; rw [show nb - 1 = i - 1 by omega, ← hf0, ← hle]; first | rw [if_pos ⟨by omega, by omega⟩] | rw [if_neg (by intro hh; omega)], rfl⟩)
    · skip
      refine lv_aload_n hx hb dX1_tell_55 rfl (lv_at hl 0 rfl) ?_
      refine xget F hP inX1_tell_X1 0 rfl rfl 0 (by decide) lkX1_tell_1 rfl dX1_tell_56 ?_
      refine lv_iload hx hb dX1_tell_59 (lv_at hl 8 rfl) ?_
      refine xald F hP 1 (v := (nI (q i))) rfl (by omega) (by omega) rfl dX1_tell_61 ?_
      have hbd3 := hq (i) (by omega)
      refine lv_iload hx hb dX1_tell_62 (lv_at hl 4 rfl) ?_
      refine lv_isub hx hb dX1_tell_64 ?_
      refine xabs F hl.1 lkX1_tell_2 lkX1_tell_3 lkX1_tell_4 lkX1_tell_5 (Nat.le_of_ble_eq_true rfl) (Nat.le_of_ble_eq_true rfl) ⟨Nat.le_of_ble_eq_true rfl, Nat.le_of_ble_eq_true rfl⟩ (by omega) (by omega) dX1_tell_65 ?_
      refine lv_istore (lv' := [(9, .int (nI (dst (q i) (soN ek fg r)))), (0, .ref h0), (1, .int (nI ek)), (2, .int (nI fg)), (3, .int (nI r)), (4, .int (nI (soN ek fg r))), (5, .int (nI z)), (6, .int (nI f)), (7, .int (nI le)), (8, .int (nI i))]) hx hb dX1_tell_68 hl (by decide) rfl (fun ls hl => ?_)
      refine xjo (A := A) (g := g) (σ := Nat) 122 11 (fun (ra : Nat) => [(0, .ref h0), (1, .int (nI ek)), (2, .int (nI fg)), (3, .int (nI r)), (4, .int (nI (soN ek fg r))), (5, .int (nI z)), (6, .int (nI f)), (7, .int (nI le)), (8, .int (nI i)), (9, .int (nI (dst (q i) (soN ek fg r))))]) (fun (ra : Nat) => [(h0, .inr (1, [.ref h1, .int (nI nb)])), (h1, .inl (eI g, 7, .inl (fun j => nI (q j))))]) (fun (ra : Nat) => [.int (nI ra)]) (fun (ra : Nat) => ra = (if (if slN ek = true then decide (q f ≤ q i) else decide (q i < q f)) = true then 1 else 0) ∧ i < nb) (fun jn122 => ?_) (fun xz_ hI H locs ls hP hD hS hl => ?_)
      · skip
        refine lv_iload hx hb dX1_tell_70 (lv_at hl 6 rfl) ?_
        refine zeq (tgt := 100) hx hb dX1_tell_72 (by decide) (by omega) (fun c72 => ?_) (fun c72 => ?_)
        · skip
          refine lv_aload_n hx hb dX1_tell_100 rfl (lv_at hl 1 rfl) ?_
          refine xget F hP inX1_tell_X1 0 rfl rfl 0 (by decide) lkX1_tell_1 rfl dX1_tell_101 ?_
          refine lv_iload hx hb dX1_tell_104 (lv_at hl 9 rfl) ?_
          refine xald F hP 1 (v := (nI (q i))) rfl (by omega) (by omega) rfl dX1_tell_106 ?_
          have hbd4 := hq (i) (by omega)
          refine lv_aload_n hx hb dX1_tell_107 rfl (lv_at hl 1 rfl) ?_
          refine xget F hP inX1_tell_X1 0 rfl rfl 0 (by decide) lkX1_tell_1 rfl dX1_tell_108 ?_
          refine lv_iload hx hb dX1_tell_111 (lv_at hl 7 rfl) ?_
          refine xald F hP 1 (v := (nI (q f))) rfl (by omega) (by omega) rfl dX1_tell_113 ?_
          have hbd5 := hq (f) (by omega)
          refine xge (tgt := 121) hx hb dX1_tell_114 (by decide) (by omega) (by omega) (fun c114 => ?_) (fun c114 => ?_)
          · skip
            refine lv_iconst (v := (nI 0)) hx hb dX1_tell_121 (by decide) ?_
            exact jn122 0 (show 0 = (if (if slN ek = true then decide (q f ≤ q i) else decide (q i < q f)) = true then 1 else 0) ∧ i < nb from (⟨by cases hsl : slN ek <;> simp [hsl] at hI24 <;> simp <;> omega, by omega⟩)) _ _ _ hP hD hS (lv_sub hl [1, 2, 3, 4, 5, 6, 7, 8, 9, 0] rfl)
          · skip
            refine lv_iconst (v := (nI 1)) hx hb dX1_tell_117 (by decide) ?_
            refine lv_goto (tgt := 122) hx hb dX1_tell_118 (by decide) ?_
            exact jn122 1 (show 1 = (if (if slN ek = true then decide (q f ≤ q i) else decide (q i < q f)) = true then 1 else 0) ∧ i < nb from (⟨by cases hsl : slN ek <;> simp [hsl] at hI24 <;> simp <;> omega, by omega⟩)) _ _ _ hP hD hS (lv_sub hl [1, 2, 3, 4, 5, 6, 7, 8, 9, 0] rfl)
        · skip
          refine lv_aload_n hx hb dX1_tell_75 rfl (lv_at hl 1 rfl) ?_
          refine xget F hP inX1_tell_X1 0 rfl rfl 0 (by decide) lkX1_tell_1 rfl dX1_tell_76 ?_
          refine lv_iload hx hb dX1_tell_79 (lv_at hl 9 rfl) ?_
          refine xald F hP 1 (v := (nI (q i))) rfl (by omega) (by omega) rfl dX1_tell_81 ?_
          have hbd6 := hq (i) (by omega)
          refine lv_aload_n hx hb dX1_tell_82 rfl (lv_at hl 1 rfl) ?_
          refine xget F hP inX1_tell_X1 0 rfl rfl 0 (by decide) lkX1_tell_1 rfl dX1_tell_83 ?_
          refine lv_iload hx hb dX1_tell_86 (lv_at hl 7 rfl) ?_
          refine xald F hP 1 (v := (nI (q f))) rfl (by omega) (by omega) rfl dX1_tell_88 ?_
          have hbd7 := hq (f) (by omega)
          refine xlt (tgt := 96) hx hb dX1_tell_89 (by decide) (by omega) (by omega) (fun c89 => ?_) (fun c89 => ?_)
          · skip
            refine lv_iconst (v := (nI 0)) hx hb dX1_tell_96 (by decide) ?_
            refine lv_goto (tgt := 122) hx hb dX1_tell_97 (by decide) ?_
            exact jn122 0 (show 0 = (if (if slN ek = true then decide (q f ≤ q i) else decide (q i < q f)) = true then 1 else 0) ∧ i < nb from (⟨by cases hsl : slN ek <;> simp [hsl] at hI24 <;> simp <;> omega, by omega⟩)) _ _ _ hP hD hS (lv_sub hl [1, 2, 3, 4, 5, 6, 7, 8, 9, 0] rfl)
          · skip
            refine lv_iconst (v := (nI 1)) hx hb dX1_tell_92 (by decide) ?_
            refine lv_goto (tgt := 122) hx hb dX1_tell_93 (by decide) ?_
            exact jn122 1 (show 1 = (if (if slN ek = true then decide (q f ≤ q i) else decide (q i < q f)) = true then 1 else 0) ∧ i < nb from (⟨by cases hsl : slN ek <;> simp [hsl] at hI24 <;> simp <;> omega, by omega⟩)) _ _ _ hP hD hS (lv_sub hl [1, 2, 3, 4, 5, 6, 7, 8, 9, 0] rfl)
      · skip
        obtain ⟨ra, rfl⟩ : ∃ z, z = xz_ := ⟨_, rfl⟩
        have hP : va_P (eD g) vwCl [(h0, .inr (1, [.ref h1, .int (nI nb)])), (h1, .inl (eI g, 7, .inl (fun j => nI (q j))))] H := hP
        have hD : va_D A [(h0, .inr (1, [.ref h1, .int (nI nb)])), (h1, .inl (eI g, 7, .inl (fun j => nI (q j))))] := hD
        have hl : lv_has ls 11 [(0, .ref h0), (1, .int (nI ek)), (2, .int (nI fg)), (3, .int (nI r)), (4, .int (nI (soN ek fg r))), (5, .int (nI z)), (6, .int (nI f)), (7, .int (nI le)), (8, .int (nI i)), (9, .int (nI (dst (q i) (soN ek fg r))))] := hl
        have hI122 : ra = (if (if slN ek = true then decide (q f ≤ q i) else decide (q i < q f)) = true then 1 else 0) ∧ i < nb := hI
        clear hI
        obtain ⟨hra, hin⟩ := id hI122
        have hrb : ra ≤ 1 := by rw [hra]; exact ite_le1 _
        refine lv_istore (lv' := [(10, .int (nI ra)), (0, .ref h0), (1, .int (nI ek)), (2, .int (nI fg)), (3, .int (nI r)), (4, .int (nI (soN ek fg r))), (5, .int (nI z)), (6, .int (nI f)), (7, .int (nI le)), (8, .int (nI i)), (9, .int (nI (dst (q i) (soN ek fg r))))]) hx hb dX1_tell_122 hl (by decide) rfl (fun ls hl => ?_)
        refine lv_iload hx hb dX1_tell_124 (lv_at hl 10 rfl) ?_
        refine lv_iload hx hb dX1_tell_126 (lv_at hl 8 rfl) ?_
        refine xlt (tgt := 143) hx hb dX1_tell_128 (by decide) (by omega) (by omega) (fun c128 => ?_) (fun c128 => ?_)
        · skip
          refine lv_iload hx hb dX1_tell_143 (lv_at hl 9 rfl) ?_
          refine lv_istore (lv' := [(6, .int (nI i)), (10, .int (nI ra)), (0, .ref h0), (1, .int (nI ek)), (2, .int (nI fg)), (3, .int (nI r)), (4, .int (nI (soN ek fg r))), (5, .int (nI z)), (7, .int (nI le)), (8, .int (nI i)), (9, .int (nI (dst (q i) (soN ek fg r))))]) hx hb dX1_tell_145 hl (by decide) rfl (fun ls hl => ?_)
          refine lv_iload hx hb dX1_tell_147 (lv_at hl 10 rfl) ?_
          refine lv_istore (lv' := [(7, .int (nI (dst (q i) (soN ek fg r)))), (6, .int (nI i)), (10, .int (nI ra)), (0, .ref h0), (1, .int (nI ek)), (2, .int (nI fg)), (3, .int (nI r)), (4, .int (nI (soN ek fg r))), (5, .int (nI z)), (8, .int (nI i)), (9, .int (nI (dst (q i) (soN ek fg r))))]) hx hb dX1_tell_149 hl (by decide) rfl (fun ls hl => ?_)
          refine lv_iinc (v := (nI (i + 1))) (lv' := [(8, .int (nI (i + 1))), (7, .int (nI (dst (q i) (soN ek fg r)))), (6, .int (nI i)), (10, .int (nI ra)), (0, .ref h0), (1, .int (nI ek)), (2, .int (nI fg)), (3, .int (nI r)), (4, .int (nI (soN ek fg r))), (5, .int (nI z)), (9, .int (nI (dst (q i) (soN ek fg r))))]) hx hb dX1_tell_151 hl (k := 9) rfl (iincP i 1) (by decide) rfl (fun ls hl => ?_)
          refine lv_goto (tgt := 46) hx hb dX1_tell_154 (by decide) ?_
          exact ih46 (i + 1, i, dst (q i) (soN ek fg r)) (show i = nearQ q (soN ek fg r) (slN ek) ((i + 1) - 1) ∧ (dst (q i) (soN ek fg r)) = dst (q i) (soN ek fg r) ∧ 1 ≤ (i + 1) ∧ (i + 1) ≤ nb from (near_back hf0 hle hra (by omega) (by omega) (by omega))) (show nb - (i + 1) < nb - i from (by omega)) _ _ _ hP hD hS (lv_sub hl [4, 5, 6, 7, 8, 9, 2, 1, 0] rfl)
        · skip
          refine lv_iload hx hb dX1_tell_131 (lv_at hl 10 rfl) ?_
          refine lv_iload hx hb dX1_tell_133 (lv_at hl 8 rfl) ?_
          refine xne (tgt := 151) hx hb dX1_tell_135 (by decide) (by omega) (by omega) (fun c135 => ?_) (fun c135 => ?_)
          · skip
            refine lv_iinc (v := (nI (i + 1))) (lv' := [(8, .int (nI (i + 1))), (10, .int (nI ra)), (0, .ref h0), (1, .int (nI ek)), (2, .int (nI fg)), (3, .int (nI r)), (4, .int (nI (soN ek fg r))), (5, .int (nI z)), (6, .int (nI f)), (7, .int (nI le)), (9, .int (nI (dst (q i) (soN ek fg r))))]) hx hb dX1_tell_151 hl (k := 9) rfl (iincP i 1) (by decide) rfl (fun ls hl => ?_)
            refine lv_goto (tgt := 46) hx hb dX1_tell_154 (by decide) ?_
            exact ih46 (i + 1, f, le) (show f = nearQ q (soN ek fg r) (slN ek) ((i + 1) - 1) ∧ le = dst (q f) (soN ek fg r) ∧ 1 ≤ (i + 1) ∧ (i + 1) ≤ nb from (near_stay hf0 hle hra (by omega) (by omega) (by omega))) (show nb - (i + 1) < nb - i from (by omega)) _ _ _ hP hD hS (lv_sub hl [2, 3, 4, 5, 6, 7, 8, 9, 0] rfl)
          · skip
            refine lv_iload hx hb dX1_tell_138 (lv_at hl 0 rfl) ?_
            refine zeq (tgt := 151) hx hb dX1_tell_140 (by decide) (by omega) (fun c140 => ?_) (fun c140 => ?_)
            · skip
              refine lv_iinc (v := (nI (i + 1))) (lv' := [(8, .int (nI (i + 1))), (10, .int (nI ra)), (0, .ref h0), (1, .int (nI ek)), (2, .int (nI fg)), (3, .int (nI r)), (4, .int (nI (soN ek fg r))), (5, .int (nI z)), (6, .int (nI f)), (7, .int (nI le)), (9, .int (nI (dst (q i) (soN ek fg r))))]) hx hb dX1_tell_151 hl (k := 9) rfl (iincP i 1) (by decide) rfl (fun ls hl => ?_)
              refine lv_goto (tgt := 46) hx hb dX1_tell_154 (by decide) ?_
              exact ih46 (i + 1, f, le) (show f = nearQ q (soN ek fg r) (slN ek) ((i + 1) - 1) ∧ le = dst (q f) (soN ek fg r) ∧ 1 ≤ (i + 1) ∧ (i + 1) ≤ nb from (near_stay hf0 hle hra (by omega) (by omega) (by omega))) (show nb - (i + 1) < nb - i from (by omega)) _ _ _ hP hD hS (lv_sub hl [2, 3, 4, 5, 6, 7, 8, 9, 0] rfl)
            · skip
              refine lv_iload hx hb dX1_tell_143 (lv_at hl 9 rfl) ?_
              refine lv_istore (lv' := [(6, .int (nI i)), (10, .int (nI ra)), (0, .ref h0), (1, .int (nI ek)), (2, .int (nI fg)), (3, .int (nI r)), (4, .int (nI (soN ek fg r))), (5, .int (nI z)), (7, .int (nI le)), (8, .int (nI i)), (9, .int (nI (dst (q i) (soN ek fg r))))]) hx hb dX1_tell_145 hl (by decide) rfl (fun ls hl => ?_)
              refine lv_iload hx hb dX1_tell_147 (lv_at hl 10 rfl) ?_
              refine lv_istore (lv' := [(7, .int (nI (dst (q i) (soN ek fg r)))), (6, .int (nI i)), (10, .int (nI ra)), (0, .ref h0), (1, .int (nI ek)), (2, .int (nI fg)), (3, .int (nI r)), (4, .int (nI (soN ek fg r))), (5, .int (nI z)), (8, .int (nI i)), (9, .int (nI (dst (q i) (soN ek fg r))))]) hx hb dX1_tell_149 hl (by decide) rfl (fun ls hl => ?_)
              refine lv_iinc (v := (nI (i + 1))) (lv' := [(8, .int (nI (i + 1))), (7, .int (nI (dst (q i) (soN ek fg r)))), (6, .int (nI i)), (10, .int (nI ra)), (0, .ref h0), (1, .int (nI ek)), (2, .int (nI fg)), (3, .int (nI r)), (4, .int (nI (soN ek fg r))), (5, .int (nI z)), (9, .int (nI (dst (q i) (soN ek fg r))))]) hx hb dX1_tell_151 hl (k := 9) rfl (iincP i 1) (by decide) rfl (fun ls hl => ?_)
              refine lv_goto (tgt := 46) hx hb dX1_tell_154 (by decide) ?_
              exact ih46 (i + 1, i, dst (q i) (soN ek fg r)) (show i = nearQ q (soN ek fg r) (slN ek) ((i + 1) - 1) ∧ (dst (q i) (soN ek fg r)) = dst (q i) (soN ek fg r) ∧ 1 ≤ (i + 1) ∧ (i + 1) ≤ nb from (near_back hf0 hle hra (by omega) (by omega) (by omega))) (show nb - (i + 1) < nb - i from (by omega)) _ _ _ hP hD hS (lv_sub hl [4, 5, 6, 7, 8, 9, 2, 1, 0] rfl)
