theorem inX4_refuse_X4 : ∀ w ∈ u_ws RX4 TX4 10, w ∈ wsX4_refuse := fun _ h => (List.mem_cons_of_mem _ (List.mem_append_right _ h))
theorem lkX4_refuse_1 : Cond.fieldLink RX4 55 "StripInFiveSteps" "refusals" "[I" ∈ wsX4_refuse := List.mem_of_getElem? (i := 1) rfl
theorem kX4_refuse : Cal yX4_refuse wsX4_refuse cX4_refuse 3 (some .int) 1 := ⟨⟨_, rfl⟩, by decide +kernel⟩
set_option maxHeartbeats 4000000 in
set_option maxRecDepth 100000 in
theorem c_X4_refuse (l : Launch) (g : EE) (x0 : Nat) (h0 : Nat) (d0 : Nat) (k0 : Nat) (b0 : Nat) (a0 : Nat) (t0 : Nat) (r0 : Nat) (r1 : Nat) (ik : Nat) (rn : Nat) (rf : Nat → Int32) (x : Int32) (k : Nat) (hx0 : x = -nI k) (hk1 : 1 ≤ k) (hk6 : k ≤ 6) : CI l yX4_refuse wsX4_refuse ({ frames := 0, cells := 0, slots := 0, locals := 0 }) g [.ref x0, .int x] [(x0, .inr (4, [.ref h0, .ref d0, .ref k0, .int (nI ik), .ref b0, .ref a0, .ref t0, .ref r0, .int (nI rn), .ref r1])), (r1, .inl (eI g, 7, .inl rf))] (fun (rz : Int32) (wz : va_W) => rz = x ∧ wz = [(x0, .inr (4, [.ref h0, .ref d0, .ref k0, .int (nI ik), .ref b0, .ref a0, .ref t0, .ref r0, .int (nI rn), .ref r1])), (r1, .inl (eI g, 7, .inl (bump rf k)))]) 0 0 := by
  refine ctI (cc := cX4_refuse) (maxL := 3) (ret := (some .int)) (by decide) rfl (Nat.le_of_ble_eq_true rfl) ?_
  intro p_ e_ s_ m_ bl_ mt_ cd_ A ls F hnm hP hD hS hl
  obtain ⟨hx, hb, hml, hown, hts, hK, hX, hA, hrt_, hlocks⟩ := id F
  have hl : lv_has ls 3 [(0, .ref x0), (1, .int x)] := hl
  refine lv_iload_n hx hb dX4_refuse_0 rfl (lv_at hl 1 rfl) ?_
  refine lv_ineg hx hb dX4_refuse_1 ?_
  refine sti (show (-x) = nI k from neg_nI hx0) ?_
  refine lv_istore_n (lv' := [(2, .int (nI k)), (0, .ref x0), (1, .int x)]) hx hb dX4_refuse_2 rfl hl (by decide) rfl (fun ls hl => ?_)
  refine lv_iload_n hx hb dX4_refuse_3 rfl (lv_at hl 0 rfl) ?_
  refine zle (tgt := 23) hx hb dX4_refuse_4 (by decide) (by omega) (fun c4 => ?_) (fun c4 => ?_)
  · skip
    refine lv_iload_n hx hb dX4_refuse_23 rfl (lv_at hl 2 rfl) ?_
    exact rtI F hP hD hS dX4_refuse_24 (by first | (exfalso; omega) | exact ⟨rfl, by unfold bump; rw [if_neg (by omega)]⟩)
  · skip
    refine lv_iload_n hx hb dX4_refuse_7 rfl (lv_at hl 0 rfl) ?_
    refine lv_bipush (v := (nI 7)) hx hb dX4_refuse_8 (by decide) ?_
    refine xge (tgt := 23) hx hb dX4_refuse_10 (by decide) (by omega) (by omega) (fun c10 => ?_) (fun c10 => ?_)
    · skip
      refine lv_iload_n hx hb dX4_refuse_23 rfl (lv_at hl 2 rfl) ?_
      exact rtI F hP hD hS dX4_refuse_24 (by first | (exfalso; omega) | exact ⟨rfl, by unfold bump; rw [if_neg (by omega)]⟩)
    · skip
      refine lv_aload_n hx hb dX4_refuse_13 rfl (lv_at hl 1 rfl) ?_
      refine xget F hP inX4_refuse_X4 0 rfl rfl 9 (by decide) lkX4_refuse_1 rfl dX4_refuse_14 ?_
      refine lv_iload_n hx hb dX4_refuse_17 rfl (lv_at hl 0 rfl) ?_
      refine lv_dup2_11 hx hb dX4_refuse_18 rfl rfl ?_
      refine xald F hP 1 (v := (rf k)) rfl (by omega) (by omega) rfl dX4_refuse_19 ?_
      refine lv_iconst (v := (nI 1)) hx hb dX4_refuse_20 (by decide) ?_
      refine lv_iadd hx hb dX4_refuse_21 ?_
      refine xast F hP hD hS 1 (f' := (upd rf k ((rf k) + (nI 1)))) rfl (by omega) (by omega) (rfl) dX4_refuse_22 (fun H locs hP hD hS => ?_)
      have hP : va_P (eD g) vwCl [(x0, .inr (4, [.ref h0, .ref d0, .ref k0, .int (nI ik), .ref b0, .ref a0, .ref t0, .ref r0, .int (nI rn), .ref r1])), (r1, .inl (eI g, 7, .inl (upd rf k ((rf k) + (nI 1)))))] H := hP
      have hD : va_D A [(x0, .inr (4, [.ref h0, .ref d0, .ref k0, .int (nI ik), .ref b0, .ref a0, .ref t0, .ref r0, .int (nI rn), .ref r1])), (r1, .inl (eI g, 7, .inl (upd rf k ((rf k) + (nI 1)))))] := hD
      refine lv_iload_n hx hb dX4_refuse_23 rfl (lv_at hl 2 rfl) ?_
      exact rtI F hP hD hS dX4_refuse_24 (by first | (exfalso; omega) | exact ⟨rfl, by unfold bump; rw [if_neg (by omega)]⟩)

theorem lkX4_refuseLong_1 : Cond.constantLong RX4 240 (4000000000000000000) ∈ wsX4_refuseLong := List.mem_of_getElem? (i := 1) rfl
theorem kX4_refuseLong : Cal yX4_refuseLong wsX4_refuseLong cX4_refuseLong 2 (some .long) 1 := ⟨⟨_, rfl⟩, by decide +kernel⟩
set_option maxHeartbeats 4000000 in
set_option maxRecDepth 100000 in
theorem c_X4_refuseLong (l : Launch) (g : EE) (x0 : Nat) (h0 : Nat) (d0 : Nat) (k0 : Nat) (b0 : Nat) (a0 : Nat) (t0 : Nat) (r0 : Nat) (r1 : Nat) (ik : Nat) (rn : Nat) (rf : Nat → Int32) (x : Int32) (k : Nat) (hx0 : x = -nI k) (hk1 : 1 ≤ k) (hk6 : k ≤ 6) : CL l yX4_refuseLong wsX4_refuseLong ({ frames := 1, cells := 0, slots := 0, locals := 22 }) g [.ref x0, .int x] [(x0, .inr (4, [.ref h0, .ref d0, .ref k0, .int (nI ik), .ref b0, .ref a0, .ref t0, .ref r0, .int (nI rn), .ref r1])), (r1, .inl (eI g, 7, .inl rf))] (fun (rz : Int64) (wz : va_W) => rz = (4000000000000000000 - (-nI k).toInt64) ∧ wz = [(x0, .inr (4, [.ref h0, .ref d0, .ref k0, .int (nI ik), .ref b0, .ref a0, .ref t0, .ref r0, .int (nI rn), .ref r1])), (r1, .inl (eI g, 7, .inl (bump rf k)))]) 0 0 := by
  refine ctL (cc := cX4_refuseLong) (maxL := 2) (ret := (some .long)) (by decide) rfl (Nat.le_of_ble_eq_true rfl) ?_
  intro p_ e_ s_ m_ bl_ mt_ cd_ A ls F hnm hP hD hS hl
  obtain ⟨hx, hb, hml, hown, hts, hK, hX, hA, hrt_, hlocks⟩ := id F
  have hl : lv_has ls 2 [(0, .ref x0), (1, .int x)] := hl
  refine lv_ldc2 (v := 4000000000000000000) hx hb hown (F.lk lkX4_refuseLong_1) dX4_refuseLong_0 ?_
  refine lv_aload_n hx hb dX4_refuseLong_3 rfl (lv_at hl 0 rfl) ?_
  refine lv_iload_n hx hb dX4_refuseLong_4 rfl (lv_at hl 1 rfl) ?_
  refine cVI (As := [.int x]) (rest := [.long 4000000000000000000]) F (c_X4_refuse l g x0 h0 d0 k0 b0 a0 t0 r0 r1 ik rn rf x k (hx0) (hk1) (hk6)) kX4_refuse rfl gX4_refuseLong_X4_refuse rfl rfl ⟨Nat.le_of_ble_eq_true rfl, Nat.le_of_ble_eq_true rfl⟩ hP hD hS [0, 1] [] rfl rfl 0 rfl rfl hl.1 rfl rfl (Nat.le_of_ble_eq_true rfl) dX4_refuseLong_5 ⟨Nat.le_of_ble_eq_true rfl, Nat.le_of_ble_eq_true rfl⟩ (fun rz w1 H locs hpo hP hD hS => ?_)
  obtain ⟨rfl, rfl⟩ := hpo
  obtain ⟨hP, hD⟩ := nx (ws' := [(x0, .inr (4, [.ref h0, .ref d0, .ref k0, .int (nI ik), .ref b0, .ref a0, .ref t0, .ref r0, .int (nI rn), .ref r1])), (r1, .inl (eI g, 7, .inl (bump rf k)))]) hP hD [0, 1] (ndB_ok _ rfl) rfl
  refine lv_i2l hx hb dX4_refuseLong_8 rfl ?_
  refine lv_lsub hx hb dX4_refuseLong_9 ?_
  exact rtL F hP hD hS dX4_refuseLong_10 (⟨by rw [hx0], rfl⟩)

theorem inX4_isBand_X4 : ∀ w ∈ u_ws RX4 TX4 10, w ∈ wsX4_isBand := fun _ h => (List.mem_cons_of_mem _ (List.mem_append_left _ (List.mem_append_right _ h)))
theorem lkX4_isBand_1 : Cond.fieldLink RX4 10 "StripInFiveSteps" "now" "LStripInFiveSteps$Shed;" ∈ wsX4_isBand := List.mem_of_getElem? (i := 1) rfl
theorem inX4_isBand_X0 : ∀ w ∈ u_ws RX0 TX0 5, w ∈ wsX4_isBand := fun _ h => (List.mem_cons_of_mem _ (List.mem_append_right _ h))
theorem lkX4_isBand_2 : Cond.fieldLink RX4 93 "StripInFiveSteps$Shed" "numbers" "[I" ∈ wsX4_isBand := List.mem_of_getElem? (i := 2) rfl
theorem kX4_isBand : Cal yX4_isBand wsX4_isBand cX4_isBand 2 (some .boolean) 1 := ⟨⟨_, rfl⟩, by decide +kernel⟩
set_option maxHeartbeats 4000000 in
set_option maxRecDepth 100000 in
theorem c_X4_isBand (l : Launch) (g : EE) (x0 : Nat) (h0 : Nat) (d0 : Nat) (k0 : Nat) (b0 : Nat) (a0 : Nat) (t0 : Nat) (r0 : Nat) (r1 : Nat) (ik : Nat) (rn : Nat) (h1 : Nat) (h2 : Nat) (B : Nat → Nat) (sk : Nat) (ek : Nat) (tr : Nat) (x : Int32) (hB : okB B) : CI l yX4_isBand wsX4_isBand ({ frames := 0, cells := 0, slots := 0, locals := 0 }) g [.ref x0, .int x] [(x0, .inr (4, [.ref h0, .ref d0, .ref k0, .int (nI ik), .ref b0, .ref a0, .ref t0, .ref r0, .int (nI rn), .ref r1])), (h0, .inr (0, [.ref h1, .ref h2, .int (nI sk), .int (nI ek), .int (nI tr)])), (h2, .inl (eI g, 5, .inl (fun j => nI (B j))))] (fun (rz : Int32) (wz : va_W) => rz = (nI (if 0 ≤ x.toInt ∧ x.toInt < (B 0 : Int) then 1 else 0)) ∧ wz = [(x0, .inr (4, [.ref h0, .ref d0, .ref k0, .int (nI ik), .ref b0, .ref a0, .ref t0, .ref r0, .int (nI rn), .ref r1])), (h0, .inr (0, [.ref h1, .ref h2, .int (nI sk), .int (nI ek), .int (nI tr)])), (h2, .inl (eI g, 5, .inl (fun j => nI (B j))))]) 0 0 := by
  refine ctI (cc := cX4_isBand) (maxL := 2) (ret := (some .boolean)) (by decide) rfl (Nat.le_of_ble_eq_true rfl) ?_
  intro p_ e_ s_ m_ bl_ mt_ cd_ A ls F hnm hP hD hS hl
  obtain ⟨hx, hb, hml, hown, hts, hK, hX, hA, hrt_, hlocks⟩ := id F
  have hl : lv_has ls 2 [(0, .ref x0), (1, .int x)] := hl
  obtain ⟨hb0, hb1, hb2, hb3, hb4, hb5⟩ := okB_b hB
  refine lv_iload_n hx hb dX4_isBand_0 rfl (lv_at hl 1 rfl) ?_
  refine wlt (tgt := 21) hx hb dX4_isBand_1 (by decide) (fun c1 => ?_) (fun c1 => ?_)
  · skip
    refine lv_iconst (v := (nI 0)) hx hb dX4_isBand_21 (by decide) ?_
    exact rtZ F hP hD hS dX4_isBand_22 (rfl) (⟨by first | rw [if_pos (by omega)] | rw [if_neg (by omega)], rfl⟩)
  · skip
    refine lv_iload_n hx hb dX4_isBand_4 rfl (lv_at hl 1 rfl) ?_
    refine lv_aload_n hx hb dX4_isBand_5 rfl (lv_at hl 0 rfl) ?_
    refine xget F hP inX4_isBand_X4 0 rfl rfl 0 (by decide) lkX4_isBand_1 rfl dX4_isBand_6 ?_
    refine xget F hP inX4_isBand_X0 1 rfl rfl 1 (by decide) lkX4_isBand_2 rfl dX4_isBand_9 ?_
    refine lv_iconst (v := (nI 0)) hx hb dX4_isBand_12 (by decide) ?_
    refine xald F hP 2 (v := (nI (B 0))) rfl (by omega) (by omega) rfl dX4_isBand_13 ?_
    refine yge (tgt := 21) hx hb dX4_isBand_14 (by decide) (by omega) (fun c14 => ?_) (fun c14 => ?_)
    · skip
      refine lv_iconst (v := (nI 0)) hx hb dX4_isBand_21 (by decide) ?_
      exact rtZ F hP hD hS dX4_isBand_22 (rfl) (⟨by first | rw [if_pos (by omega)] | rw [if_neg (by omega)], rfl⟩)
    · skip
      refine lv_iconst (v := (nI 1)) hx hb dX4_isBand_17 (by decide) ?_
      refine lv_goto (tgt := 22) hx hb dX4_isBand_18 (by decide) ?_
      exact rtZ F hP hD hS dX4_isBand_22 (rfl) (⟨by first | rw [if_pos (by omega)] | rw [if_neg (by omega)], rfl⟩)

theorem kX4_canBeTold : Cal yX4_canBeTold wsX4_canBeTold cX4_canBeTold 2 (some .boolean) 1 := ⟨⟨_, rfl⟩, by decide +kernel⟩
set_option maxHeartbeats 4000000 in
set_option maxRecDepth 100000 in
theorem c_X4_canBeTold (l : Launch) (g : EE) (x0 : Nat) (h0 : Nat) (d0 : Nat) (k0 : Nat) (b0 : Nat) (a0 : Nat) (t0 : Nat) (r0 : Nat) (r1 : Nat) (ik : Nat) (rn : Nat) (h1 : Nat) (h2 : Nat) (B : Nat → Nat) (sk : Nat) (ek : Nat) (tr : Nat) (x : Int32) (hB : okB B) : CI l yX4_canBeTold wsX4_canBeTold ({ frames := 1, cells := 0, slots := 0, locals := 21 }) g [.ref x0, .int x] [(x0, .inr (4, [.ref h0, .ref d0, .ref k0, .int (nI ik), .ref b0, .ref a0, .ref t0, .ref r0, .int (nI rn), .ref r1])), (h0, .inr (0, [.ref h1, .ref h2, .int (nI sk), .int (nI ek), .int (nI tr)])), (h2, .inl (eI g, 5, .inl (fun j => nI (B j))))] (fun (rz : Int32) (wz : va_W) => rz = (nI (if (0 ≤ x.toInt ∧ x.toInt < (B 0 : Int)) ∨ x.toInt = 8 then 1 else 0)) ∧ wz = [(x0, .inr (4, [.ref h0, .ref d0, .ref k0, .int (nI ik), .ref b0, .ref a0, .ref t0, .ref r0, .int (nI rn), .ref r1])), (h0, .inr (0, [.ref h1, .ref h2, .int (nI sk), .int (nI ek), .int (nI tr)])), (h2, .inl (eI g, 5, .inl (fun j => nI (B j))))]) 0 0 := by
  refine ctI (cc := cX4_canBeTold) (maxL := 2) (ret := (some .boolean)) (by decide) rfl (Nat.le_of_ble_eq_true rfl) ?_
  intro p_ e_ s_ m_ bl_ mt_ cd_ A ls F hnm hP hD hS hl
  obtain ⟨hx, hb, hml, hown, hts, hK, hX, hA, hrt_, hlocks⟩ := id F
  have hl : lv_has ls 2 [(0, .ref x0), (1, .int x)] := hl
  obtain ⟨hb0, hb1, hb2, hb3, hb4, hb5⟩ := okB_b hB
  refine lv_aload_n hx hb dX4_canBeTold_0 rfl (lv_at hl 0 rfl) ?_
  refine lv_iload_n hx hb dX4_canBeTold_1 rfl (lv_at hl 1 rfl) ?_
  refine cVI (As := [.int x]) (rest := []) F (c_X4_isBand l g x0 h0 d0 k0 b0 a0 t0 r0 r1 ik rn h1 h2 B sk ek tr x (hB)) kX4_isBand rfl gX4_canBeTold_X4_isBand rfl rfl ⟨Nat.le_of_ble_eq_true rfl, Nat.le_of_ble_eq_true rfl⟩ hP hD hS [0, 1, 2] [] rfl rfl 0 rfl rfl hl.1 rfl rfl (Nat.le_of_ble_eq_true rfl) dX4_canBeTold_2 ⟨Nat.le_of_ble_eq_true rfl, Nat.le_of_ble_eq_true rfl⟩ (fun rz w1 H locs hpo hP hD hS => ?_)
  obtain ⟨rfl, rfl⟩ := hpo
  obtain ⟨hP, hD⟩ := nx (ws' := [(x0, .inr (4, [.ref h0, .ref d0, .ref k0, .int (nI ik), .ref b0, .ref a0, .ref t0, .ref r0, .int (nI rn), .ref r1])), (h0, .inr (0, [.ref h1, .ref h2, .int (nI sk), .int (nI ek), .int (nI tr)])), (h2, .inl (eI g, 5, .inl (fun j => nI (B j))))]) hP hD [0, 1, 2] (ndB_ok _ rfl) rfl
  refine bqne (tgt := 14) hx hb dX4_canBeTold_5 (by decide) (fun c5 => ?_) (fun c5 => ?_)
  · skip
    refine lv_iconst (v := (nI 1)) hx hb dX4_canBeTold_14 (by decide) ?_
    refine lv_goto (tgt := 19) hx hb dX4_canBeTold_15 (by decide) ?_
    exact rtZ F hP hD hS dX4_canBeTold_19 (rfl) (⟨by first | rw [if_pos (by omega)] | rw [if_neg (by omega)], rfl⟩)
  · skip
    refine lv_iload_n hx hb dX4_canBeTold_8 rfl (lv_at hl 1 rfl) ?_
    refine lv_bipush (v := (nI 8)) hx hb dX4_canBeTold_9 (by decide) ?_
    refine yne (tgt := 18) hx hb dX4_canBeTold_11 (by decide) (by omega) (fun c11 => ?_) (fun c11 => ?_)
    · skip
      refine lv_iconst (v := (nI 0)) hx hb dX4_canBeTold_18 (by decide) ?_
      exact rtZ F hP hD hS dX4_canBeTold_19 (rfl) (⟨by first | rw [if_pos (by omega)] | rw [if_neg (by omega)], rfl⟩)
    · skip
      refine lv_iconst (v := (nI 1)) hx hb dX4_canBeTold_14 (by decide) ?_
      refine lv_goto (tgt := 19) hx hb dX4_canBeTold_15 (by decide) ?_
      exact rtZ F hP hD hS dX4_canBeTold_19 (rfl) (⟨by first | rw [if_pos (by omega)] | rw [if_neg (by omega)], rfl⟩)

theorem inX4_faultsBehindStrip_X4 : ∀ w ∈ u_ws RX4 TX4 10, w ∈ wsX4_faultsBehindStrip := fun _ h => (List.mem_cons_of_mem _ (List.mem_append_left _ (List.mem_append_left _ (List.mem_append_left _ (List.mem_append_right _ h)))))
theorem lkX4_faultsBehindStrip_1 : Cond.fieldLink RX4 36 "StripInFiveSteps" "strips" "LStripInFiveSteps$Strips;" ∈ wsX4_faultsBehindStrip := List.mem_of_getElem? (i := 1) rfl
theorem lkX4_faultsBehindStrip_2 : Cond.fieldLink RX4 10 "StripInFiveSteps" "now" "LStripInFiveSteps$Shed;" ∈ wsX4_faultsBehindStrip := List.mem_of_getElem? (i := 2) rfl
theorem inX4_faultsBehindStrip_X0 : ∀ w ∈ u_ws RX0 TX0 5, w ∈ wsX4_faultsBehindStrip := fun _ h => (List.mem_cons_of_mem _ (List.mem_append_left _ (List.mem_append_left _ (List.mem_append_right _ h))))
theorem lkX4_faultsBehindStrip_3 : Cond.fieldLink RX4 99 "StripInFiveSteps$Shed" "stripKind" "I" ∈ wsX4_faultsBehindStrip := List.mem_of_getElem? (i := 3) rfl
theorem kX4_faultsBehindStrip : Cal yX4_faultsBehindStrip wsX4_faultsBehindStrip cX4_faultsBehindStrip 3 (some .long) 1 := ⟨⟨_, rfl⟩, by decide +kernel⟩
set_option maxHeartbeats 4000000 in
set_option maxRecDepth 100000 in
theorem c_X4_faultsBehindStrip (l : Launch) (g : EE) (x0 : Nat) (h0 : Nat) (d0 : Nat) (k0 : Nat) (b0 : Nat) (a0 : Nat) (t0 : Nat) (r0 : Nat) (r1 : Nat) (ik : Nat) (rn : Nat) (h1 : Nat) (h2 : Nat) (W : Nat → Nat) (B : Nat → Nat) (sk : Nat) (ek : Nat) (tr : Nat) (a1 : Nat) (a2 : Nat) (a3 : Nat) (a4 : Nat) (a5 : Nat) (T : Nat → Int64) (ka : Nat) (Lb : Nat → Nat) (q2 : Nat → Nat) (n2 : Nat) (x : Int64) (hC : Cch T Lb) (hB : okB B) (hek : ek ≤ 4) (hsk : sk ≤ 3) (hin : inS x) (hW : ∀ j, W j ≤ 9) : CL l yX4_faultsBehindStrip wsX4_faultsBehindStrip ({ frames := 5, cells := 0, slots := 0, locals := 130 }) g [.ref x0, .long x] [(x0, .inr (4, [.ref h0, .ref d0, .ref k0, .int (nI ik), .ref b0, .ref a0, .ref t0, .ref r0, .int (nI rn), .ref r1])), (h0, .inr (0, [.ref h1, .ref h2, .int (nI sk), .int (nI ek), .int (nI tr)])), (h1, .inl (eI g, 41, .inl (fun j => nI (W j)))), (h2, .inl (eI g, 5, .inl (fun j => nI (B j)))), (a0, .inr (2, [.ref a1, .ref a2, .ref a3, .int (nI ka), .ref a5])), (a1, .inl (eJ g, 1476, .inr (.inl T))), (a2, .inl (eI g, 4, .inl (fun j => nI (Lb j)))), (a3, .inr (1, [.ref a4, .int (nI n2)])), (a4, .inl (eI g, 7, .inl (fun j => nI (q2 j))))] (fun (rz : Int64) (wz : va_W) => ∃ T9 : Nat → Int64, ∃ Lb9 : Nat → Nat, ∃ q9 : Nat → Nat, ∃ n9 : Nat, rz = (lN (fbS (tlT B sk ek) W (bitL x) (B 4) (bv (tlT B sk ek) (bitL x)))) ∧ wz = [(x0, .inr (4, [.ref h0, .ref d0, .ref k0, .int (nI ik), .ref b0, .ref a0, .ref t0, .ref r0, .int (nI rn), .ref r1])), (h0, .inr (0, [.ref h1, .ref h2, .int (nI sk), .int (nI ek), .int (nI tr)])), (h1, .inl (eI g, 41, .inl (fun j => nI (W j)))), (h2, .inl (eI g, 5, .inl (fun j => nI (B j)))), (a0, .inr (2, [.ref a1, .ref a2, .ref a3, .int (nI (sk * 369)), .ref a5])), (a1, .inl (eJ g, 1476, .inr (.inl T9))), (a2, .inl (eI g, 4, .inl (fun j => nI (Lb9 j)))), (a3, .inr (1, [.ref a4, .int (nI n9)])), (a4, .inl (eI g, 7, .inl (fun j => nI (q9 j))))] ∧ Cch T9 Lb9) 0 0 := by
  refine ctL (cc := cX4_faultsBehindStrip) (maxL := 3) (ret := (some .long)) (by decide) rfl (Nat.le_of_ble_eq_true rfl) ?_
  intro p_ e_ s_ m_ bl_ mt_ cd_ A ls F hnm hP hD hS hl
  obtain ⟨hx, hb, hml, hown, hts, hK, hX, hA, hrt_, hlocks⟩ := id F
  have hl : lv_has ls 3 [(0, .ref x0), (1, .long x)] := hl
  obtain ⟨hb0, hb1, hb2, hb3, hb4, hb5⟩ := okB_b hB
  have hvin := bv_in (tlT B sk ek) (bitL x)
  refine lv_aload_n hx hb dX4_faultsBehindStrip_0 rfl (lv_at hl 0 rfl) ?_
  refine xget F hP inX4_faultsBehindStrip_X4 0 rfl rfl 5 (by decide) lkX4_faultsBehindStrip_1 rfl dX4_faultsBehindStrip_1 ?_
  refine lv_aload_n hx hb dX4_faultsBehindStrip_4 rfl (lv_at hl 0 rfl) ?_
  refine xget F hP inX4_faultsBehindStrip_X4 0 rfl rfl 0 (by decide) lkX4_faultsBehindStrip_2 rfl dX4_faultsBehindStrip_5 ?_
  refine lv_aload_n hx hb dX4_faultsBehindStrip_8 rfl (lv_at hl 0 rfl) ?_
  refine xget F hP inX4_faultsBehindStrip_X4 0 rfl rfl 0 (by decide) lkX4_faultsBehindStrip_2 rfl dX4_faultsBehindStrip_9 ?_
  refine xget F hP inX4_faultsBehindStrip_X0 1 rfl rfl 2 (by decide) lkX4_faultsBehindStrip_3 rfl dX4_faultsBehindStrip_12 ?_
  refine cVV (As := [.ref h0, .int (nI sk)]) (rest := []) F (c_X2_take l g a0 a1 a2 a3 a4 a5 T ka Lb q2 n2 h0 h1 h2 W B sk ek tr sk (hC) (hB) (hek) (hsk)) kX2_take rfl gX4_faultsBehindStrip_X2_take rfl rfl ⟨Nat.le_of_ble_eq_true rfl, Nat.le_of_ble_eq_true rfl⟩ hP hD hS [4, 5, 6, 7, 8, 1, 2, 3] [0] rfl rfl 0 rfl rfl hl.1 rfl rfl (Nat.le_of_ble_eq_true rfl) dX4_faultsBehindStrip_15 ⟨Nat.le_of_ble_eq_true rfl, Nat.le_of_ble_eq_true rfl⟩ (fun w1 H locs hpo hP hD hS => ?_)
  obtain ⟨T9_1, Lb9_1, q9_1, n9_1, rfl, hpo1⟩ := hpo
  obtain ⟨hP, hD⟩ := nx (ws' := [(x0, .inr (4, [.ref h0, .ref d0, .ref k0, .int (nI ik), .ref b0, .ref a0, .ref t0, .ref r0, .int (nI rn), .ref r1])), (h0, .inr (0, [.ref h1, .ref h2, .int (nI sk), .int (nI ek), .int (nI tr)])), (h1, .inl (eI g, 41, .inl (fun j => nI (W j)))), (h2, .inl (eI g, 5, .inl (fun j => nI (B j)))), (a0, .inr (2, [.ref a1, .ref a2, .ref a3, .int (nI (sk * 369)), .ref a5])), (a1, .inl (eJ g, 1476, .inr (.inl T9_1))), (a2, .inl (eI g, 4, .inl (fun j => nI (Lb9_1 j)))), (a3, .inr (1, [.ref a4, .int (nI n9_1)])), (a4, .inl (eI g, 7, .inl (fun j => nI (q9_1 j))))]) hP hD [0, 6, 7, 8, 1, 2, 3, 4, 5] (ndB_ok _ rfl) rfl
  obtain ⟨hC9, hR9⟩ := hpo1
  refine lv_aload_n hx hb dX4_faultsBehindStrip_18 rfl (lv_at hl 0 rfl) ?_
  refine xget F hP inX4_faultsBehindStrip_X4 0 rfl rfl 5 (by decide) lkX4_faultsBehindStrip_1 rfl dX4_faultsBehindStrip_19 ?_
  refine lv_aload_n hx hb dX4_faultsBehindStrip_22 rfl (lv_at hl 0 rfl) ?_
  refine xget F hP inX4_faultsBehindStrip_X4 0 rfl rfl 5 (by decide) lkX4_faultsBehindStrip_1 rfl dX4_faultsBehindStrip_23 ?_
  refine lv_iconst (v := (nI 0)) hx hb dX4_faultsBehindStrip_26 (by decide) ?_
  refine lv_aload_n hx hb dX4_faultsBehindStrip_27 rfl (lv_at hl 0 rfl) ?_
  refine xget F hP inX4_faultsBehindStrip_X4 0 rfl rfl 0 (by decide) lkX4_faultsBehindStrip_2 rfl dX4_faultsBehindStrip_28 ?_
  refine lv_lload_n hx hb dX4_faultsBehindStrip_31 rfl (lv_at hl 1 rfl) ?_
  refine cVI (As := [.int (nI 0), .ref h0, .long x]) (rest := [.ref a0]) F (c_X2_bestBy l g a0 a1 a2 a3 a5 T9_1 (sk * 369) h0 h1 h2 W B sk ek tr (tlT B sk ek) 0 x (by omega) (hR9) (by omega) (hin) (hW)) kX2_bestBy rfl gX4_faultsBehindStrip_X2_bestBy rfl rfl ⟨Nat.le_of_ble_eq_true rfl, Nat.le_of_ble_eq_true rfl⟩ hP hD hS [4, 5, 1, 2, 3] [0, 6, 7, 8] rfl rfl 0 rfl rfl hl.1 rfl rfl (Nat.le_of_ble_eq_true rfl) dX4_faultsBehindStrip_32 ⟨Nat.le_of_ble_eq_true rfl, Nat.le_of_ble_eq_true rfl⟩ (fun rz w1 H locs hpo hP hD hS => ?_)
  obtain ⟨rfl, rfl⟩ := hpo
  obtain ⟨hP, hD⟩ := nx (ws' := [(x0, .inr (4, [.ref h0, .ref d0, .ref k0, .int (nI ik), .ref b0, .ref a0, .ref t0, .ref r0, .int (nI rn), .ref r1])), (h0, .inr (0, [.ref h1, .ref h2, .int (nI sk), .int (nI ek), .int (nI tr)])), (h1, .inl (eI g, 41, .inl (fun j => nI (W j)))), (h2, .inl (eI g, 5, .inl (fun j => nI (B j)))), (a0, .inr (2, [.ref a1, .ref a2, .ref a3, .int (nI (sk * 369)), .ref a5])), (a1, .inl (eJ g, 1476, .inr (.inl T9_1))), (a2, .inl (eI g, 4, .inl (fun j => nI (Lb9_1 j)))), (a3, .inr (1, [.ref a4, .int (nI n9_1)])), (a4, .inl (eI g, 7, .inl (fun j => nI (q9_1 j))))]) hP hD [0, 6, 7, 8, 4, 5, 1, 2, 3] (ndB_ok _ rfl) rfl
  refine sti (congrArg nI (show bsI (tlT B sk ek) W (bitL x) 0 = bv (tlT B sk ek) (bitL x) from bsI_0 _ _ _)) ?_
  refine lv_aload_n hx hb dX4_faultsBehindStrip_35 rfl (lv_at hl 0 rfl) ?_
  refine xget F hP inX4_faultsBehindStrip_X4 0 rfl rfl 0 (by decide) lkX4_faultsBehindStrip_2 rfl dX4_faultsBehindStrip_36 ?_
  refine lv_lload_n hx hb dX4_faultsBehindStrip_39 rfl (lv_at hl 1 rfl) ?_
  refine cVL (As := [.int (nI (bv (tlT B sk ek) (bitL x))), .ref h0, .long x]) (rest := []) F (c_X2_faultsBehind l g a0 a1 a2 a3 a5 T9_1 (sk * 369) h0 h1 h2 W B sk ek tr (tlT B sk ek) (bv (tlT B sk ek) (bitL x)) x (hR9) (by omega) (hvin.1) (hvin.2) (hin) (hW) (by omega)) kX2_faultsBehind rfl gX4_faultsBehindStrip_X2_faultsBehind rfl rfl ⟨Nat.le_of_ble_eq_true rfl, Nat.le_of_ble_eq_true rfl⟩ hP hD hS [4, 5, 1, 2, 3] [0, 6, 7, 8] rfl rfl 0 rfl rfl hl.1 rfl rfl (Nat.le_of_ble_eq_true rfl) dX4_faultsBehindStrip_40 ⟨Nat.le_of_ble_eq_true rfl, Nat.le_of_ble_eq_true rfl⟩ (fun rz w1 H locs hpo hP hD hS => ?_)
  obtain ⟨rfl, rfl⟩ := hpo
  obtain ⟨hP, hD⟩ := nx (ws' := [(x0, .inr (4, [.ref h0, .ref d0, .ref k0, .int (nI ik), .ref b0, .ref a0, .ref t0, .ref r0, .int (nI rn), .ref r1])), (h0, .inr (0, [.ref h1, .ref h2, .int (nI sk), .int (nI ek), .int (nI tr)])), (h1, .inl (eI g, 41, .inl (fun j => nI (W j)))), (h2, .inl (eI g, 5, .inl (fun j => nI (B j)))), (a0, .inr (2, [.ref a1, .ref a2, .ref a3, .int (nI (sk * 369)), .ref a5])), (a1, .inl (eJ g, 1476, .inr (.inl T9_1))), (a2, .inl (eI g, 4, .inl (fun j => nI (Lb9_1 j)))), (a3, .inr (1, [.ref a4, .int (nI n9_1)])), (a4, .inl (eI g, 7, .inl (fun j => nI (q9_1 j))))]) hP hD [0, 6, 7, 8, 4, 5, 1, 2, 3] (ndB_ok _ rfl) rfl
  exact rtL F hP hD hS dX4_faultsBehindStrip_43 (⟨_, _, _, _, rfl, rfl, hC9⟩)

theorem inX4_toldUnlike_X4 : ∀ w ∈ u_ws RX4 TX4 10, w ∈ wsX4_toldUnlike := fun _ h => (List.mem_cons_of_mem _ (List.mem_append_left _ (List.mem_append_left _ (List.mem_append_right _ h))))
theorem lkX4_toldUnlike_1 : Cond.fieldLink RX4 10 "StripInFiveSteps" "now" "LStripInFiveSteps$Shed;" ∈ wsX4_toldUnlike := List.mem_of_getElem? (i := 1) rfl
theorem inX4_toldUnlike_X0 : ∀ w ∈ u_ws RX0 TX0 5, w ∈ wsX4_toldUnlike := fun _ h => (List.mem_cons_of_mem _ (List.mem_append_left _ (List.mem_append_right _ h)))
theorem lkX4_toldUnlike_2 : Cond.fieldLink RX4 93 "StripInFiveSteps$Shed" "numbers" "[I" ∈ wsX4_toldUnlike := List.mem_of_getElem? (i := 2) rfl
theorem lkX4_toldUnlike_3 : Cond.fieldLink RX4 29 "StripInFiveSteps" "strip" "LStripInFiveSteps$Strip;" ∈ wsX4_toldUnlike := List.mem_of_getElem? (i := 3) rfl
theorem lkX4_toldUnlike_4 : Cond.fieldLink RX4 99 "StripInFiveSteps$Shed" "stripKind" "I" ∈ wsX4_toldUnlike := List.mem_of_getElem? (i := 4) rfl
theorem kX4_toldUnlike : Cal yX4_toldUnlike wsX4_toldUnlike cX4_toldUnlike 8 (some .long) 3 := ⟨⟨_, rfl⟩, by decide +kernel⟩
set_option maxHeartbeats 4000000 in
set_option maxRecDepth 100000 in
theorem c_X4_toldUnlike (l : Launch) (g : EE) (x0 : Nat) (h0 : Nat) (d0 : Nat) (k0 : Nat) (b0 : Nat) (a0 : Nat) (t0 : Nat) (r0 : Nat) (r1 : Nat) (ik : Nat) (rn : Nat) (h1 : Nat) (h2 : Nat) (B : Nat → Nat) (sk : Nat) (ek : Nat) (tr : Nat) (b1 : Nat) (q : Nat → Nat) (n : Nat) (v : Nat) (e1 : Nat) (e2 : Nat) (hB : okB B) (hsk : sk ≤ 3) (hv : v ≤ 40) (he1 : e1 ≤ 4) (he2 : e2 ≤ 4) : CL l yX4_toldUnlike wsX4_toldUnlike ({ frames := 3, cells := 0, slots := 0, locals := 72 }) g [.ref x0, .int (nI v), .int (nI e1), .int (nI e2)] [(x0, .inr (4, [.ref h0, .ref d0, .ref k0, .int (nI ik), .ref b0, .ref a0, .ref t0, .ref r0, .int (nI rn), .ref r1])), (h0, .inr (0, [.ref h1, .ref h2, .int (nI sk), .int (nI ek), .int (nI tr)])), (h2, .inl (eI g, 5, .inl (fun j => nI (B j)))), (b0, .inr (1, [.ref b1, .int (nI n)])), (b1, .inl (eI g, 7, .inl (fun j => nI (q j))))] (fun (rz : Int64) (wz : va_W) => rz = (mskP (fun r => decide (tl (B 0) (B 1) (B 2) sk e1 v r ≠ tl (B 0) (B 1) (B 2) sk e2 v r)) 40) ∧ wz = [(x0, .inr (4, [.ref h0, .ref d0, .ref k0, .int (nI ik), .ref b0, .ref a0, .ref t0, .ref r0, .int (nI rn), .ref r1])), (h0, .inr (0, [.ref h1, .ref h2, .int (nI sk), .int (nI ek), .int (nI tr)])), (h2, .inl (eI g, 5, .inl (fun j => nI (B j)))), (b0, .inr (1, [.ref b1, .int (nI (B 0))])), (b1, .inl (eI g, 7, .inl (fun j => nI ((layQ sk (B 0) (B 1) v q (B 0)) j))))]) 0 0 := by
  refine ctL (cc := cX4_toldUnlike) (maxL := 8) (ret := (some .long)) (by decide) rfl (Nat.le_of_ble_eq_true rfl) ?_
  intro p_ e_ s_ m_ bl_ mt_ cd_ A ls F hnm hP hD hS hl
  obtain ⟨hx, hb, hml, hown, hts, hK, hX, hA, hrt_, hlocks⟩ := id F
  have hl : lv_has ls 8 [(0, .ref x0), (1, .int (nI v)), (2, .int (nI e1)), (3, .int (nI e2))] := hl
  obtain ⟨hb0, hb1, hb2, hb3, hb4, hb5⟩ := okB_b hB
  refine lv_lconst (v := lN 0) hx hb dX4_toldUnlike_0 rfl ?_
  refine lv_lstore (lv' := [(4, .long (lN 0)), (0, .ref x0), (1, .int (nI v)), (2, .int (nI e1)), (3, .int (nI e2))]) hx hb dX4_toldUnlike_1 hl (by decide) rfl (fun ls hl => ?_)
  refine lv_aload_n hx hb dX4_toldUnlike_3 rfl (lv_at hl 1 rfl) ?_
  refine xget F hP inX4_toldUnlike_X4 0 rfl rfl 0 (by decide) lkX4_toldUnlike_1 rfl dX4_toldUnlike_4 ?_
  refine xget F hP inX4_toldUnlike_X0 1 rfl rfl 1 (by decide) lkX4_toldUnlike_2 rfl dX4_toldUnlike_7 ?_
  refine lv_iconst (v := (nI 2)) hx hb dX4_toldUnlike_10 (by decide) ?_
  refine xald F hP 2 (v := (nI (B 2))) rfl (by omega) (by omega) rfl dX4_toldUnlike_11 ?_
  refine lv_istore (lv' := [(6, .int (nI (B 2))), (4, .long (lN 0)), (0, .ref x0), (1, .int (nI v)), (2, .int (nI e1)), (3, .int (nI e2))]) hx hb dX4_toldUnlike_12 hl (by decide) rfl (fun ls hl => ?_)
  refine lv_aload_n hx hb dX4_toldUnlike_14 rfl (lv_at hl 2 rfl) ?_
  refine xget F hP inX4_toldUnlike_X4 0 rfl rfl 4 (by decide) lkX4_toldUnlike_3 rfl dX4_toldUnlike_15 ?_
  refine lv_aload_n hx hb dX4_toldUnlike_18 rfl (lv_at hl 2 rfl) ?_
  refine xget F hP inX4_toldUnlike_X4 0 rfl rfl 0 (by decide) lkX4_toldUnlike_1 rfl dX4_toldUnlike_19 ?_
  refine lv_aload_n hx hb dX4_toldUnlike_22 rfl (lv_at hl 2 rfl) ?_
  refine xget F hP inX4_toldUnlike_X4 0 rfl rfl 0 (by decide) lkX4_toldUnlike_1 rfl dX4_toldUnlike_23 ?_
  refine xget F hP inX4_toldUnlike_X0 1 rfl rfl 2 (by decide) lkX4_toldUnlike_4 rfl dX4_toldUnlike_26 ?_
  refine lv_iload_n hx hb dX4_toldUnlike_29 rfl (lv_at hl 3 rfl) ?_
  refine cVV (As := [.ref h0, .int (nI sk), .int (nI v)]) (rest := []) F (c_X1_lay l g b0 b1 h0 h1 h2 q n B sk ek tr sk v (hsk) (hv) (by omega) (by omega) (by omega)) kX1_lay rfl gX4_toldUnlike_X1_lay rfl rfl ⟨Nat.le_of_ble_eq_true rfl, Nat.le_of_ble_eq_true rfl⟩ hP hD hS [3, 4, 1, 2] [0] rfl rfl 0 rfl rfl hl.1 rfl rfl (Nat.le_of_ble_eq_true rfl) dX4_toldUnlike_30 ⟨Nat.le_of_ble_eq_true rfl, Nat.le_of_ble_eq_true rfl⟩ (fun w1 H locs hpo hP hD hS => ?_)
  subst hpo
  obtain ⟨hP, hD⟩ := nx (ws' := [(x0, .inr (4, [.ref h0, .ref d0, .ref k0, .int (nI ik), .ref b0, .ref a0, .ref t0, .ref r0, .int (nI rn), .ref r1])), (h0, .inr (0, [.ref h1, .ref h2, .int (nI sk), .int (nI ek), .int (nI tr)])), (h2, .inl (eI g, 5, .inl (fun j => nI (B j)))), (b0, .inr (1, [.ref b1, .int (nI (B 0))])), (b1, .inl (eI g, 7, .inl (fun j => nI ((layQ sk (B 0) (B 1) v q (B 0)) j))))]) hP hD [0, 3, 4, 1, 2] (ndB_ok _ rfl) rfl
  refine lv_iconst (v := (nI 1)) hx hb dX4_toldUnlike_33 (by decide) ?_
  refine lv_istore (lv' := [(7, .int (nI 1)), (6, .int (nI (B 2))), (4, .long (lN 0)), (0, .ref x0), (1, .int (nI v)), (2, .int (nI e1)), (3, .int (nI e2))]) hx hb dX4_toldUnlike_34 hl (by decide) rfl (fun ls hl => ?_)
  refine xlo (σ := Nat × Int64) 8 (fun xz_ => (fun (i : Nat) (x : Int64) => [(0, .ref x0), (1, .int (nI v)), (2, .int (nI e1)), (3, .int (nI e2)), (4, .long x), (6, .int (nI (B 2))), (7, .int (nI i))]) xz_.1 xz_.2) (fun xz_ => (fun (i : Nat) (x : Int64) => [(x0, .inr (4, [.ref h0, .ref d0, .ref k0, .int (nI ik), .ref b0, .ref a0, .ref t0, .ref r0, .int (nI rn), .ref r1])), (h0, .inr (0, [.ref h1, .ref h2, .int (nI sk), .int (nI ek), .int (nI tr)])), (h2, .inl (eI g, 5, .inl (fun j => nI (B j)))), (b0, .inr (1, [.ref b1, .int (nI (B 0))])), (b1, .inl (eI g, 7, .inl (fun j => nI ((layQ sk (B 0) (B 1) v q (B 0)) j))))]) xz_.1 xz_.2) (fun xz_ => (fun (i : Nat) (x : Int64) => x = mskP (fun r => decide (tl (B 0) (B 1) (B 2) sk e1 v r ≠ tl (B 0) (B 1) (B 2) sk e2 v r)) (i - 1) ∧ 1 ≤ i ∧ i ≤ 41) xz_.1 xz_.2) (fun xz_ => (fun (i : Nat) (x : Int64) => 41 - i) xz_.1 xz_.2) (fun xz_ hI ih36 H locs ls hP hD hS hl => ?_) (1, (lN 0)) (show (lN 0) = mskP (fun r => decide (tl (B 0) (B 1) (B 2) sk e1 v r ≠ tl (B 0) (B 1) (B 2) sk e2 v r)) (1 - 1) ∧ 1 ≤ 1 ∧ 1 ≤ 41 from (⟨rfl, by omega, by omega⟩)) hP hD hS (lv_sub hl [3, 4, 5, 6, 2, 1, 0] rfl)
  obtain ⟨i, x⟩ := xz_
  have hP : va_P (eD g) vwCl [(x0, .inr (4, [.ref h0, .ref d0, .ref k0, .int (nI ik), .ref b0, .ref a0, .ref t0, .ref r0, .int (nI rn), .ref r1])), (h0, .inr (0, [.ref h1, .ref h2, .int (nI sk), .int (nI ek), .int (nI tr)])), (h2, .inl (eI g, 5, .inl (fun j => nI (B j)))), (b0, .inr (1, [.ref b1, .int (nI (B 0))])), (b1, .inl (eI g, 7, .inl (fun j => nI ((layQ sk (B 0) (B 1) v q (B 0)) j))))] H := hP
  have hD : va_D A [(x0, .inr (4, [.ref h0, .ref d0, .ref k0, .int (nI ik), .ref b0, .ref a0, .ref t0, .ref r0, .int (nI rn), .ref r1])), (h0, .inr (0, [.ref h1, .ref h2, .int (nI sk), .int (nI ek), .int (nI tr)])), (h2, .inl (eI g, 5, .inl (fun j => nI (B j)))), (b0, .inr (1, [.ref b1, .int (nI (B 0))])), (b1, .inl (eI g, 7, .inl (fun j => nI ((layQ sk (B 0) (B 1) v q (B 0)) j))))] := hD
  have hl : lv_has ls 8 [(0, .ref x0), (1, .int (nI v)), (2, .int (nI e1)), (3, .int (nI e2)), (4, .long x), (6, .int (nI (B 2))), (7, .int (nI i))] := hl
  have hI36 : x = mskP (fun r => decide (tl (B 0) (B 1) (B 2) sk e1 v r ≠ tl (B 0) (B 1) (B 2) sk e2 v r)) (i - 1) ∧ 1 ≤ i ∧ i ≤ 41 := hI
  clear hI
  obtain ⟨hx0, hi1, hi2⟩ := id hI36
  refine lv_iload hx hb dX4_toldUnlike_36 (lv_at hl 6 rfl) ?_
  refine lv_bipush (v := (nI 40)) hx hb dX4_toldUnlike_38 (by decide) ?_
  refine xgt (tgt := 85) hx hb dX4_toldUnlike_40 (by decide) (by omega) (by omega) (fun c40 => ?_) (fun c40 => ?_)
  · skip
    refine lv_lload hx hb dX4_toldUnlike_85 (lv_at hl 4 rfl) ?_
    exact rtL F hP hD hS dX4_toldUnlike_87 (⟨by rw [hx0, show i - 1 = 40 by omega], rfl⟩)
  · skip
    refine lv_aload_n hx hb dX4_toldUnlike_43 rfl (lv_at hl 0 rfl) ?_
    refine xget F hP inX4_toldUnlike_X4 0 rfl rfl 4 (by decide) lkX4_toldUnlike_3 rfl dX4_toldUnlike_44 ?_
    refine lv_iload_n hx hb dX4_toldUnlike_47 rfl (lv_at hl 2 rfl) ?_
    refine lv_iload hx hb dX4_toldUnlike_48 (lv_at hl 5 rfl) ?_
    refine lv_iload hx hb dX4_toldUnlike_50 (lv_at hl 6 rfl) ?_
    refine cVI (As := [.int (nI e1), .int (nI (B 2)), .int (nI i)]) (rest := []) F (c_X1_tell l g b0 b1 (layQ sk (B 0) (B 1) v q (B 0)) (B 0) e1 (B 2) i (by omega) (by omega) (layQ_b) (he1) (by omega) (by omega)) kX1_tell rfl gX4_toldUnlike_X1_tell rfl rfl ⟨Nat.le_of_ble_eq_true rfl, Nat.le_of_ble_eq_true rfl⟩ hP hD hS [3, 4] [0, 1, 2] rfl rfl 0 rfl rfl hl.1 rfl rfl (Nat.le_of_ble_eq_true rfl) dX4_toldUnlike_52 ⟨Nat.le_of_ble_eq_true rfl, Nat.le_of_ble_eq_true rfl⟩ (fun rz w1 H locs hpo hP hD hS => ?_)
    obtain ⟨rfl, rfl⟩ := hpo
    obtain ⟨hP, hD⟩ := nx (ws' := [(x0, .inr (4, [.ref h0, .ref d0, .ref k0, .int (nI ik), .ref b0, .ref a0, .ref t0, .ref r0, .int (nI rn), .ref r1])), (h0, .inr (0, [.ref h1, .ref h2, .int (nI sk), .int (nI ek), .int (nI tr)])), (h2, .inl (eI g, 5, .inl (fun j => nI (B j)))), (b0, .inr (1, [.ref b1, .int (nI (B 0))])), (b1, .inl (eI g, 7, .inl (fun j => nI ((layQ sk (B 0) (B 1) v q (B 0)) j))))]) hP hD [0, 1, 2, 3, 4] (ndB_ok _ rfl) rfl
    refine sti (congrArg nI (show tellQ (layQ sk (B 0) (B 1) v q (B 0)) (B 0) e1 (B 2) i = tl (B 0) (B 1) (B 2) sk e1 v i from tell_lay (by omega))) ?_
    have htb_e1 := tl9 (nb := B 0) (st := B 1) (fg := B 2) (sk := sk) (ek := e1) (v := v) (r := i) (by omega) (by omega)
    refine lv_aload_n hx hb dX4_toldUnlike_55 rfl (lv_at hl 0 rfl) ?_
    refine xget F hP inX4_toldUnlike_X4 0 rfl rfl 4 (by decide) lkX4_toldUnlike_3 rfl dX4_toldUnlike_56 ?_
    refine lv_iload_n hx hb dX4_toldUnlike_59 rfl (lv_at hl 3 rfl) ?_
    refine lv_iload hx hb dX4_toldUnlike_60 (lv_at hl 5 rfl) ?_
    refine lv_iload hx hb dX4_toldUnlike_62 (lv_at hl 6 rfl) ?_
    refine cVI (As := [.int (nI e2), .int (nI (B 2)), .int (nI i)]) (rest := [.int (nI (tl (B 0) (B 1) (B 2) sk e1 v i))]) F (c_X1_tell l g b0 b1 (layQ sk (B 0) (B 1) v q (B 0)) (B 0) e2 (B 2) i (by omega) (by omega) (layQ_b) (he2) (by omega) (by omega)) kX1_tell rfl gX4_toldUnlike_X1_tell rfl rfl ⟨Nat.le_of_ble_eq_true rfl, Nat.le_of_ble_eq_true rfl⟩ hP hD hS [3, 4] [0, 1, 2] rfl rfl 0 rfl rfl hl.1 rfl rfl (Nat.le_of_ble_eq_true rfl) dX4_toldUnlike_64 ⟨Nat.le_of_ble_eq_true rfl, Nat.le_of_ble_eq_true rfl⟩ (fun rz w1 H locs hpo hP hD hS => ?_)
    obtain ⟨rfl, rfl⟩ := hpo
    obtain ⟨hP, hD⟩ := nx (ws' := [(x0, .inr (4, [.ref h0, .ref d0, .ref k0, .int (nI ik), .ref b0, .ref a0, .ref t0, .ref r0, .int (nI rn), .ref r1])), (h0, .inr (0, [.ref h1, .ref h2, .int (nI sk), .int (nI ek), .int (nI tr)])), (h2, .inl (eI g, 5, .inl (fun j => nI (B j)))), (b0, .inr (1, [.ref b1, .int (nI (B 0))])), (b1, .inl (eI g, 7, .inl (fun j => nI ((layQ sk (B 0) (B 1) v q (B 0)) j))))]) hP hD [0, 1, 2, 3, 4] (ndB_ok _ rfl) rfl
    refine sti (congrArg nI (show tellQ (layQ sk (B 0) (B 1) v q (B 0)) (B 0) e2 (B 2) i = tl (B 0) (B 1) (B 2) sk e2 v i from tell_lay (by omega))) ?_
    have htb_e2 := tl9 (nb := B 0) (st := B 1) (fg := B 2) (sk := sk) (ek := e2) (v := v) (r := i) (by omega) (by omega)
    refine xeq (tgt := 79) hx hb dX4_toldUnlike_67 (by decide) (by omega) (by omega) (fun c67 => ?_) (fun c67 => ?_)
    · skip
      refine lv_iinc (v := (nI (i + 1))) (lv' := [(7, .int (nI (i + 1))), (0, .ref x0), (1, .int (nI v)), (2, .int (nI e1)), (3, .int (nI e2)), (4, .long x), (6, .int (nI (B 2)))]) hx hb dX4_toldUnlike_79 hl (k := 6) rfl (iincP i 1) (by decide) rfl (fun ls hl => ?_)
      refine lv_goto (tgt := 36) hx hb dX4_toldUnlike_82 (by decide) ?_
      exact ih36 (i + 1, x) (show x = mskP (fun r => decide (tl (B 0) (B 1) (B 2) sk e1 v r ≠ tl (B 0) (B 1) (B 2) sk e2 v r)) ((i + 1) - 1) ∧ 1 ≤ (i + 1) ∧ (i + 1) ≤ 41 from (⟨by rw [hx0]; exact (mskP_off (by omega) (by simp [c67])).symm, by omega, by omega⟩)) (show 41 - (i + 1) < 41 - i from (by omega)) _ _ _ hP hD hS (lv_sub hl [1, 2, 3, 4, 5, 6, 0] rfl)
    · skip
      refine lv_lload hx hb dX4_toldUnlike_70 (lv_at hl 4 rfl) ?_
      refine lv_lconst (v := lN 1) hx hb dX4_toldUnlike_72 rfl ?_
      refine lv_iload hx hb dX4_toldUnlike_73 (lv_at hl 6 rfl) ?_
      refine lv_lshl hx hb dX4_toldUnlike_75 rfl ?_
      refine lv_lor hx hb dX4_toldUnlike_76 ?_
      refine lv_lstore (lv' := [(4, .long (x ||| ((lN 1) <<< (((nI i)).toInt64 &&& 63)))), (0, .ref x0), (1, .int (nI v)), (2, .int (nI e1)), (3, .int (nI e2)), (6, .int (nI (B 2))), (7, .int (nI i))]) hx hb dX4_toldUnlike_77 hl (by decide) rfl (fun ls hl => ?_)
      refine lv_iinc (v := (nI (i + 1))) (lv' := [(7, .int (nI (i + 1))), (4, .long (x ||| ((lN 1) <<< (((nI i)).toInt64 &&& 63)))), (0, .ref x0), (1, .int (nI v)), (2, .int (nI e1)), (3, .int (nI e2)), (6, .int (nI (B 2)))]) hx hb dX4_toldUnlike_79 hl (k := 6) rfl (iincP i 1) (by decide) rfl (fun ls hl => ?_)
      refine lv_goto (tgt := 36) hx hb dX4_toldUnlike_82 (by decide) ?_
      exact ih36 (i + 1, (x ||| ((lN 1) <<< (((nI i)).toInt64 &&& 63)))) (show (x ||| ((lN 1) <<< (((nI i)).toInt64 &&& 63))) = mskP (fun r => decide (tl (B 0) (B 1) (B 2) sk e1 v r ≠ tl (B 0) (B 1) (B 2) sk e2 v r)) ((i + 1) - 1) ∧ 1 ≤ (i + 1) ∧ (i + 1) ≤ 41 from (⟨by rw [hx0]; exact (mskP_on (by omega) (by simp [c67])).symm, by omega, by omega⟩)) (show 41 - (i + 1) < 41 - i from (by omega)) _ _ _ hP hD hS (lv_sub hl [2, 3, 4, 5, 1, 6, 0] rfl)

theorem inX4_isRowOfThrees_X4 : ∀ w ∈ u_ws RX4 TX4 10, w ∈ wsX4_isRowOfThrees := fun _ h => (List.mem_cons_of_mem _ (List.mem_append_right _ h))
theorem lkX4_isRowOfThrees_1 : Cond.fieldLink RX4 51 "StripInFiveSteps" "rowSize" "I" ∈ wsX4_isRowOfThrees := List.mem_of_getElem? (i := 1) rfl
theorem lkX4_isRowOfThrees_2 : Cond.fieldLink RX4 47 "StripInFiveSteps" "rowNumbers" "[I" ∈ wsX4_isRowOfThrees := List.mem_of_getElem? (i := 2) rfl
theorem kX4_isRowOfThrees : Cal yX4_isRowOfThrees wsX4_isRowOfThrees cX4_isRowOfThrees 2 (some .boolean) 0 := ⟨⟨_, rfl⟩, by decide +kernel⟩
set_option maxHeartbeats 4000000 in
set_option maxRecDepth 100000 in
theorem c_X4_isRowOfThrees (l : Launch) (g : EE) (x0 : Nat) (h0 : Nat) (d0 : Nat) (k0 : Nat) (b0 : Nat) (a0 : Nat) (t0 : Nat) (r0 : Nat) (r1 : Nat) (ik : Nat) (rn : Nat) (rw_ : Nat → Nat) (hrn : rn ≤ 12) (hrw : ∀ j, rw_ j ≤ 99) : CI l yX4_isRowOfThrees wsX4_isRowOfThrees ({ frames := 1, cells := 0, slots := 0, locals := 20 }) g [.ref x0] [(x0, .inr (4, [.ref h0, .ref d0, .ref k0, .int (nI ik), .ref b0, .ref a0, .ref t0, .ref r0, .int (nI rn), .ref r1])), (r0, .inl (eI g, 12, .inl (fun j => nI (rw_ j))))] (fun (rz : Int32) (wz : va_W) => rz = (nI (if okR rw_ rn then 1 else 0)) ∧ wz = [(x0, .inr (4, [.ref h0, .ref d0, .ref k0, .int (nI ik), .ref b0, .ref a0, .ref t0, .ref r0, .int (nI rn), .ref r1])), (r0, .inl (eI g, 12, .inl (fun j => nI (rw_ j))))]) 0 0 := by
  refine ctI (cc := cX4_isRowOfThrees) (maxL := 2) (ret := (some .boolean)) (by decide) rfl (Nat.le_of_ble_eq_true rfl) ?_
  intro p_ e_ s_ m_ bl_ mt_ cd_ A ls F hnm hP hD hS hl
  obtain ⟨hx, hb, hml, hown, hts, hK, hX, hA, hrt_, hlocks⟩ := id F
  have hl : lv_has ls 2 [(0, .ref x0)] := hl
  refine lv_aload_n hx hb dX4_isRowOfThrees_0 rfl (lv_at hl 0 rfl) ?_
  refine xget F hP inX4_isRowOfThrees_X4 0 rfl rfl 8 (by decide) lkX4_isRowOfThrees_1 rfl dX4_isRowOfThrees_1 ?_
  refine lv_iconst (v := (nI 3)) hx hb dX4_isRowOfThrees_4 (by decide) ?_
  refine xrem hx hb (by omega) (by omega) (by omega) dX4_isRowOfThrees_5 ?_
  refine zeq (tgt := 11) hx hb dX4_isRowOfThrees_6 (by decide) (by omega) (fun c6 => ?_) (fun c6 => ?_)
  · skip
    refine lv_iconst (v := (nI 0)) hx hb dX4_isRowOfThrees_11 (by decide) ?_
    refine lv_istore_n (lv' := [(1, .int (nI 0)), (0, .ref x0)]) hx hb dX4_isRowOfThrees_12 rfl hl (by decide) rfl (fun ls hl => ?_)
    refine xlo (σ := Nat) 2 (fun (i : Nat) => [(0, .ref x0), (1, .int (nI i))]) (fun (i : Nat) => [(x0, .inr (4, [.ref h0, .ref d0, .ref k0, .int (nI ik), .ref b0, .ref a0, .ref t0, .ref r0, .int (nI rn), .ref r1])), (r0, .inl (eI g, 12, .inl (fun j => nI (rw_ j))))]) (fun (i : Nat) => (∀ k, k < i → cdR rw_ k) ∧ i % 3 = 0 ∧ i ≤ rn) (fun (i : Nat) => rn - i) (fun xz_ hI ih13 H locs ls hP hD hS hl => ?_) 0 (show (∀ k, k < 0 → cdR rw_ k) ∧ 0 % 3 = 0 ∧ 0 ≤ rn from (⟨fun k hk => by omega, by omega, by omega⟩)) hP hD hS (lv_sub hl [1, 0] rfl)
    obtain ⟨i, rfl⟩ : ∃ z, z = xz_ := ⟨_, rfl⟩
    have hP : va_P (eD g) vwCl [(x0, .inr (4, [.ref h0, .ref d0, .ref k0, .int (nI ik), .ref b0, .ref a0, .ref t0, .ref r0, .int (nI rn), .ref r1])), (r0, .inl (eI g, 12, .inl (fun j => nI (rw_ j))))] H := hP
    have hD : va_D A [(x0, .inr (4, [.ref h0, .ref d0, .ref k0, .int (nI ik), .ref b0, .ref a0, .ref t0, .ref r0, .int (nI rn), .ref r1])), (r0, .inl (eI g, 12, .inl (fun j => nI (rw_ j))))] := hD
    have hl : lv_has ls 2 [(0, .ref x0), (1, .int (nI i))] := hl
    have hI13 : (∀ k, k < i → cdR rw_ k) ∧ i % 3 = 0 ∧ i ≤ rn := hI
    clear hI
    obtain ⟨hI0, hi3, hi⟩ := id hI13
    refine lv_iload_n hx hb dX4_isRowOfThrees_13 rfl (lv_at hl 1 rfl) ?_
    refine lv_iconst (v := (nI 2)) hx hb dX4_isRowOfThrees_14 (by decide) ?_
    refine xadd hx hb dX4_isRowOfThrees_15 ?_
    refine lv_aload_n hx hb dX4_isRowOfThrees_16 rfl (lv_at hl 0 rfl) ?_
    refine xget F hP inX4_isRowOfThrees_X4 0 rfl rfl 8 (by decide) lkX4_isRowOfThrees_1 rfl dX4_isRowOfThrees_17 ?_
    refine xge (tgt := 70) hx hb dX4_isRowOfThrees_20 (by decide) (by omega) (by omega) (fun c20 => ?_) (fun c20 => ?_)
    · skip
      refine lv_iconst (v := (nI 1)) hx hb dX4_isRowOfThrees_70 (by decide) ?_
      exact rtZ F hP hD hS dX4_isRowOfThrees_71 (rfl) (⟨by rw [if_pos ⟨by omega, fun k hk => hI0 k (by omega)⟩], rfl⟩)
    · skip
      refine lv_aload_n hx hb dX4_isRowOfThrees_23 rfl (lv_at hl 0 rfl) ?_
      refine xget F hP inX4_isRowOfThrees_X4 0 rfl rfl 7 (by decide) lkX4_isRowOfThrees_2 rfl dX4_isRowOfThrees_24 ?_
      refine lv_iload_n hx hb dX4_isRowOfThrees_27 rfl (lv_at hl 1 rfl) ?_
      refine xald F hP 1 (v := (nI (rw_ i))) rfl (by omega) (by omega) rfl dX4_isRowOfThrees_28 ?_
      have hbd1 := hrw (i)
      refine cSI (As := [.int (nI (rw_ i))]) (rest := []) F (n_X4_isSecond l g (rw_ i) (by omega)) kX4_isSecond gX4_isRowOfThrees_X4_isSecond rfl rfl ⟨Nat.le_of_ble_eq_true rfl, Nat.le_of_ble_eq_true rfl⟩ hP hD hS [] [0, 1] rfl rfl hl.1 rfl rfl (Nat.le_of_ble_eq_true rfl) dX4_isRowOfThrees_29 ⟨Nat.le_of_ble_eq_true rfl, Nat.le_of_ble_eq_true rfl⟩ (fun rz w1 H locs hpo hP hD hS => ?_)
      obtain ⟨rfl, rfl⟩ := hpo
      obtain ⟨hP, hD⟩ := nx (ws' := [(x0, .inr (4, [.ref h0, .ref d0, .ref k0, .int (nI ik), .ref b0, .ref a0, .ref t0, .ref r0, .int (nI rn), .ref r1])), (r0, .inl (eI g, 12, .inl (fun j => nI (rw_ j))))]) hP hD [0, 1] (ndB_ok _ rfl) rfl
      refine bqeq (tgt := 62) hx hb dX4_isRowOfThrees_32 (by decide) (fun c32 => ?_) (fun c32 => ?_)
      · skip
        refine lv_iconst (v := (nI 0)) hx hb dX4_isRowOfThrees_62 (by decide) ?_
        exact rtZ F hP hD hS dX4_isRowOfThrees_63 (rfl) (⟨by rw [if_neg (fun z => cdR_no hi3 (z.2 i (by omega)) (z.2 (i + 1) (by omega)) (z.2 (i + 2) (by omega)) (by omega))], rfl⟩)
      · skip
        refine lv_aload_n hx hb dX4_isRowOfThrees_35 rfl (lv_at hl 0 rfl) ?_
        refine xget F hP inX4_isRowOfThrees_X4 0 rfl rfl 7 (by decide) lkX4_isRowOfThrees_2 rfl dX4_isRowOfThrees_36 ?_
        refine lv_iload_n hx hb dX4_isRowOfThrees_39 rfl (lv_at hl 1 rfl) ?_
        refine lv_iconst (v := (nI 1)) hx hb dX4_isRowOfThrees_40 (by decide) ?_
        refine xadd hx hb dX4_isRowOfThrees_41 ?_
        refine xald F hP 1 (v := (nI (rw_ (i + 1)))) rfl (by omega) (by omega) rfl dX4_isRowOfThrees_42 ?_
        have hbd3 := hrw (i + 1)
        refine cSI (As := [.int (nI (rw_ (i + 1)))]) (rest := []) F (n_X4_isSecond l g (rw_ (i + 1)) (by omega)) kX4_isSecond gX4_isRowOfThrees_X4_isSecond rfl rfl ⟨Nat.le_of_ble_eq_true rfl, Nat.le_of_ble_eq_true rfl⟩ hP hD hS [] [0, 1] rfl rfl hl.1 rfl rfl (Nat.le_of_ble_eq_true rfl) dX4_isRowOfThrees_43 ⟨Nat.le_of_ble_eq_true rfl, Nat.le_of_ble_eq_true rfl⟩ (fun rz w1 H locs hpo hP hD hS => ?_)
        obtain ⟨rfl, rfl⟩ := hpo
        obtain ⟨hP, hD⟩ := nx (ws' := [(x0, .inr (4, [.ref h0, .ref d0, .ref k0, .int (nI ik), .ref b0, .ref a0, .ref t0, .ref r0, .int (nI rn), .ref r1])), (r0, .inl (eI g, 12, .inl (fun j => nI (rw_ j))))]) hP hD [0, 1] (ndB_ok _ rfl) rfl
        refine bqeq (tgt := 62) hx hb dX4_isRowOfThrees_46 (by decide) (fun c46 => ?_) (fun c46 => ?_)
        · skip
          refine lv_iconst (v := (nI 0)) hx hb dX4_isRowOfThrees_62 (by decide) ?_
          exact rtZ F hP hD hS dX4_isRowOfThrees_63 (rfl) (⟨by rw [if_neg (fun z => cdR_no hi3 (z.2 i (by omega)) (z.2 (i + 1) (by omega)) (z.2 (i + 2) (by omega)) (by omega))], rfl⟩)
        · skip
          refine lv_aload_n hx hb dX4_isRowOfThrees_49 rfl (lv_at hl 0 rfl) ?_
          refine xget F hP inX4_isRowOfThrees_X4 0 rfl rfl 7 (by decide) lkX4_isRowOfThrees_2 rfl dX4_isRowOfThrees_50 ?_
          refine lv_iload_n hx hb dX4_isRowOfThrees_53 rfl (lv_at hl 1 rfl) ?_
          refine lv_iconst (v := (nI 2)) hx hb dX4_isRowOfThrees_54 (by decide) ?_
          refine xadd hx hb dX4_isRowOfThrees_55 ?_
          refine xald F hP 1 (v := (nI (rw_ (i + 2)))) rfl (by omega) (by omega) rfl dX4_isRowOfThrees_56 ?_
          have hbd5 := hrw (i + 2)
          refine lv_bipush (v := (nI 8)) hx hb dX4_isRowOfThrees_57 (by decide) ?_
          refine xle (tgt := 64) hx hb dX4_isRowOfThrees_59 (by decide) (by omega) (by omega) (fun c59 => ?_) (fun c59 => ?_)
          · skip
            refine lv_iinc (v := (nI (i + 3))) (lv' := [(1, .int (nI (i + 3))), (0, .ref x0)]) hx hb dX4_isRowOfThrees_64 hl (k := 1) rfl (iincP i 3) (by decide) rfl (fun ls hl => ?_)
            refine lv_goto (tgt := 13) hx hb dX4_isRowOfThrees_67 (by decide) ?_
            exact ih13 (i + 3) (show (∀ k, k < (i + 3) → cdR rw_ k) ∧ (i + 3) % 3 = 0 ∧ (i + 3) ≤ rn from (⟨cdR_3 hI0 hi3 (by omega) (by omega) (by omega), by omega, by omega⟩)) (show rn - (i + 3) < rn - i from (by omega)) _ _ _ hP hD hS (lv_sub hl [1, 0] rfl)
          · skip
            refine lv_iconst (v := (nI 0)) hx hb dX4_isRowOfThrees_62 (by decide) ?_
            exact rtZ F hP hD hS dX4_isRowOfThrees_63 (rfl) (⟨by rw [if_neg (fun z => cdR_no hi3 (z.2 i (by omega)) (z.2 (i + 1) (by omega)) (z.2 (i + 2) (by omega)) (by omega))], rfl⟩)
  · skip
    refine lv_iconst (v := (nI 0)) hx hb dX4_isRowOfThrees_9 (by decide) ?_
    exact rtZ F hP hD hS dX4_isRowOfThrees_10 (rfl) (⟨by rw [if_neg (fun z => by omega)], rfl⟩)

theorem inX4_rowIsToldBy_X4 : ∀ w ∈ u_ws RX4 TX4 10, w ∈ wsX4_rowIsToldBy := fun _ h => (List.mem_cons_of_mem _ (List.mem_append_left _ (List.mem_append_left _ (List.mem_append_right _ h))))
theorem lkX4_rowIsToldBy_1 : Cond.fieldLink RX4 51 "StripInFiveSteps" "rowSize" "I" ∈ wsX4_rowIsToldBy := List.mem_of_getElem? (i := 1) rfl
theorem lkX4_rowIsToldBy_2 : Cond.fieldLink RX4 29 "StripInFiveSteps" "strip" "LStripInFiveSteps$Strip;" ∈ wsX4_rowIsToldBy := List.mem_of_getElem? (i := 2) rfl
theorem lkX4_rowIsToldBy_3 : Cond.fieldLink RX4 10 "StripInFiveSteps" "now" "LStripInFiveSteps$Shed;" ∈ wsX4_rowIsToldBy := List.mem_of_getElem? (i := 3) rfl
theorem inX4_rowIsToldBy_X0 : ∀ w ∈ u_ws RX0 TX0 5, w ∈ wsX4_rowIsToldBy := fun _ h => (List.mem_cons_of_mem _ (List.mem_append_left _ (List.mem_append_right _ h)))
theorem lkX4_rowIsToldBy_4 : Cond.fieldLink RX4 99 "StripInFiveSteps$Shed" "stripKind" "I" ∈ wsX4_rowIsToldBy := List.mem_of_getElem? (i := 4) rfl
theorem lkX4_rowIsToldBy_5 : Cond.fieldLink RX4 47 "StripInFiveSteps" "rowNumbers" "[I" ∈ wsX4_rowIsToldBy := List.mem_of_getElem? (i := 5) rfl
theorem kX4_rowIsToldBy : Cal yX4_rowIsToldBy wsX4_rowIsToldBy cX4_rowIsToldBy 4 (some .boolean) 2 := ⟨⟨_, rfl⟩, by decide +kernel⟩
set_option maxHeartbeats 4000000 in
set_option maxRecDepth 100000 in
theorem c_X4_rowIsToldBy (l : Launch) (g : EE) (x0 : Nat) (h0 : Nat) (d0 : Nat) (k0 : Nat) (b0 : Nat) (a0 : Nat) (t0 : Nat) (r0 : Nat) (r1 : Nat) (ik : Nat) (rn : Nat) (h1 : Nat) (h2 : Nat) (B : Nat → Nat) (sk : Nat) (ek : Nat) (tr : Nat) (b1 : Nat) (q : Nat → Nat) (n : Nat) (rw_ : Nat → Nat) (ey : Nat) (fg : Nat) (hB : okB B) (hsk : sk ≤ 3) (hey : ey ≤ 4) (hfg : fg ≤ 9) (hok : okR rw_ rn) (hrn : rn ≤ 12) (hrw : ∀ j, rw_ j ≤ 99) : CI l yX4_rowIsToldBy wsX4_rowIsToldBy ({ frames := 3, cells := 0, slots := 0, locals := 72 }) g [.ref x0, .int (nI ey), .int (nI fg)] [(x0, .inr (4, [.ref h0, .ref d0, .ref k0, .int (nI ik), .ref b0, .ref a0, .ref t0, .ref r0, .int (nI rn), .ref r1])), (h0, .inr (0, [.ref h1, .ref h2, .int (nI sk), .int (nI ek), .int (nI tr)])), (h2, .inl (eI g, 5, .inl (fun j => nI (B j)))), (b0, .inr (1, [.ref b1, .int (nI n)])), (b1, .inl (eI g, 7, .inl (fun j => nI (q j)))), (r0, .inl (eI g, 12, .inl (fun j => nI (rw_ j))))] (fun (rz : Int32) (wz : va_W) => ∃ q9 : Nat → Nat, ∃ n9 : Nat, rz = (nI (if toldR (fun v r => tl (B 0) (B 1) fg sk ey v r) rw_ rn then 1 else 0)) ∧ wz = [(x0, .inr (4, [.ref h0, .ref d0, .ref k0, .int (nI ik), .ref b0, .ref a0, .ref t0, .ref r0, .int (nI rn), .ref r1])), (h0, .inr (0, [.ref h1, .ref h2, .int (nI sk), .int (nI ek), .int (nI tr)])), (h2, .inl (eI g, 5, .inl (fun j => nI (B j)))), (b0, .inr (1, [.ref b1, .int (nI n9)])), (b1, .inl (eI g, 7, .inl (fun j => nI (q9 j)))), (r0, .inl (eI g, 12, .inl (fun j => nI (rw_ j))))]) 0 0 := by
  refine ctI (cc := cX4_rowIsToldBy) (maxL := 4) (ret := (some .boolean)) (by decide) rfl (Nat.le_of_ble_eq_true rfl) ?_
  intro p_ e_ s_ m_ bl_ mt_ cd_ A ls F hnm hP hD hS hl
  obtain ⟨hx, hb, hml, hown, hts, hK, hX, hA, hrt_, hlocks⟩ := id F
  have hl : lv_has ls 4 [(0, .ref x0), (1, .int (nI ey)), (2, .int (nI fg))] := hl
  obtain ⟨hb0, hb1, hb2, hb3, hb4, hb5⟩ := okB_b hB
  have hok1 := hok.1
  have hok2 := fun k hk => cdR_use (hok.2 k hk)
  refine lv_iconst (v := (nI 0)) hx hb dX4_rowIsToldBy_0 (by decide) ?_
  refine lv_istore_n (lv' := [(3, .int (nI 0)), (0, .ref x0), (1, .int (nI ey)), (2, .int (nI fg))]) hx hb dX4_rowIsToldBy_1 rfl hl (by decide) rfl (fun ls hl => ?_)
  refine xlo (σ := Nat × (Nat → Nat) × Nat) 4 (fun xz_ => (fun (i : Nat) (qq : Nat → Nat) (nn : Nat) => [(0, .ref x0), (1, .int (nI ey)), (2, .int (nI fg)), (3, .int (nI i))]) xz_.1 xz_.2.1 xz_.2.2) (fun xz_ => (fun (i : Nat) (qq : Nat → Nat) (nn : Nat) => [(x0, .inr (4, [.ref h0, .ref d0, .ref k0, .int (nI ik), .ref b0, .ref a0, .ref t0, .ref r0, .int (nI rn), .ref r1])), (h0, .inr (0, [.ref h1, .ref h2, .int (nI sk), .int (nI ek), .int (nI tr)])), (h2, .inl (eI g, 5, .inl (fun j => nI (B j)))), (b0, .inr (1, [.ref b1, .int (nI nn)])), (b1, .inl (eI g, 7, .inl (fun j => nI (qq j)))), (r0, .inl (eI g, 12, .inl (fun j => nI (rw_ j))))]) xz_.1 xz_.2.1 xz_.2.2) (fun xz_ => (fun (i : Nat) (qq : Nat → Nat) (nn : Nat) => (∀ j, j < i → j % 3 = 0 → tl (B 0) (B 1) fg sk ey (rw_ j) (rw_ (j + 1)) = rw_ (j + 2)) ∧ i % 3 = 0 ∧ i ≤ rn) xz_.1 xz_.2.1 xz_.2.2) (fun xz_ => (fun (i : Nat) (qq : Nat → Nat) (nn : Nat) => rn - i) xz_.1 xz_.2.1 xz_.2.2) (fun xz_ hI ih2 H locs ls hP hD hS hl => ?_) (0, q, n) (show (∀ j, j < 0 → j % 3 = 0 → tl (B 0) (B 1) fg sk ey (rw_ j) (rw_ (j + 1)) = rw_ (j + 2)) ∧ 0 % 3 = 0 ∧ 0 ≤ rn from (⟨fun j hj => by omega, by omega, by omega⟩)) hP hD hS (lv_sub hl [1, 2, 3, 0] rfl)
  obtain ⟨i, qq, nn⟩ := xz_
  have hP : va_P (eD g) vwCl [(x0, .inr (4, [.ref h0, .ref d0, .ref k0, .int (nI ik), .ref b0, .ref a0, .ref t0, .ref r0, .int (nI rn), .ref r1])), (h0, .inr (0, [.ref h1, .ref h2, .int (nI sk), .int (nI ek), .int (nI tr)])), (h2, .inl (eI g, 5, .inl (fun j => nI (B j)))), (b0, .inr (1, [.ref b1, .int (nI nn)])), (b1, .inl (eI g, 7, .inl (fun j => nI (qq j)))), (r0, .inl (eI g, 12, .inl (fun j => nI (rw_ j))))] H := hP
  have hD : va_D A [(x0, .inr (4, [.ref h0, .ref d0, .ref k0, .int (nI ik), .ref b0, .ref a0, .ref t0, .ref r0, .int (nI rn), .ref r1])), (h0, .inr (0, [.ref h1, .ref h2, .int (nI sk), .int (nI ek), .int (nI tr)])), (h2, .inl (eI g, 5, .inl (fun j => nI (B j)))), (b0, .inr (1, [.ref b1, .int (nI nn)])), (b1, .inl (eI g, 7, .inl (fun j => nI (qq j)))), (r0, .inl (eI g, 12, .inl (fun j => nI (rw_ j))))] := hD
  have hl : lv_has ls 4 [(0, .ref x0), (1, .int (nI ey)), (2, .int (nI fg)), (3, .int (nI i))] := hl
  have hI2 : (∀ j, j < i → j % 3 = 0 → tl (B 0) (B 1) fg sk ey (rw_ j) (rw_ (j + 1)) = rw_ (j + 2)) ∧ i % 3 = 0 ∧ i ≤ rn := hI
  clear hI
  obtain ⟨hI0, hi3, hi⟩ := id hI2
  refine lv_iload_n hx hb dX4_rowIsToldBy_2 rfl (lv_at hl 3 rfl) ?_
  refine lv_iconst (v := (nI 2)) hx hb dX4_rowIsToldBy_3 (by decide) ?_
  refine xadd hx hb dX4_rowIsToldBy_4 ?_
  refine lv_aload_n hx hb dX4_rowIsToldBy_5 rfl (lv_at hl 0 rfl) ?_
  refine xget F hP inX4_rowIsToldBy_X4 0 rfl rfl 8 (by decide) lkX4_rowIsToldBy_1 rfl dX4_rowIsToldBy_6 ?_
  refine xge (tgt := 72) hx hb dX4_rowIsToldBy_9 (by decide) (by omega) (by omega) (fun c9 => ?_) (fun c9 => ?_)
  · skip
    refine lv_iconst (v := (nI 1)) hx hb dX4_rowIsToldBy_72 (by decide) ?_
    exact rtZ F hP hD hS dX4_rowIsToldBy_73 (rfl) (⟨_, _, by rw [if_pos (fun j hj hj3 => hI0 j (by omega) hj3)], rfl⟩)
  · skip
    refine lv_aload_n hx hb dX4_rowIsToldBy_12 rfl (lv_at hl 0 rfl) ?_
    refine xget F hP inX4_rowIsToldBy_X4 0 rfl rfl 4 (by decide) lkX4_rowIsToldBy_2 rfl dX4_rowIsToldBy_13 ?_
    refine lv_aload_n hx hb dX4_rowIsToldBy_16 rfl (lv_at hl 0 rfl) ?_
    refine xget F hP inX4_rowIsToldBy_X4 0 rfl rfl 0 (by decide) lkX4_rowIsToldBy_3 rfl dX4_rowIsToldBy_17 ?_
    refine lv_aload_n hx hb dX4_rowIsToldBy_20 rfl (lv_at hl 0 rfl) ?_
    refine xget F hP inX4_rowIsToldBy_X4 0 rfl rfl 0 (by decide) lkX4_rowIsToldBy_3 rfl dX4_rowIsToldBy_21 ?_
    refine xget F hP inX4_rowIsToldBy_X0 1 rfl rfl 2 (by decide) lkX4_rowIsToldBy_4 rfl dX4_rowIsToldBy_24 ?_
    refine lv_aload_n hx hb dX4_rowIsToldBy_27 rfl (lv_at hl 0 rfl) ?_
    refine xget F hP inX4_rowIsToldBy_X4 0 rfl rfl 7 (by decide) lkX4_rowIsToldBy_5 rfl dX4_rowIsToldBy_28 ?_
    refine lv_iload_n hx hb dX4_rowIsToldBy_31 rfl (lv_at hl 3 rfl) ?_
    refine xald F hP 5 (v := (nI (rw_ i))) rfl (by omega) (by omega) rfl dX4_rowIsToldBy_32 ?_
    have hbd1 := hrw (i)
    refine cVV (As := [.ref h0, .int (nI sk), .int (nI (rw_ i))]) (rest := []) F (c_X1_lay l g b0 b1 h0 h1 h2 qq nn B sk ek tr sk (rw_ i) (hsk) (by have := hok2 i (by omega); omega) (by omega) (by omega) (by omega)) kX1_lay rfl gX4_rowIsToldBy_X1_lay rfl rfl ⟨Nat.le_of_ble_eq_true rfl, Nat.le_of_ble_eq_true rfl⟩ hP hD hS [3, 4, 1, 2] [0, 5] rfl rfl 0 rfl rfl hl.1 rfl rfl (Nat.le_of_ble_eq_true rfl) dX4_rowIsToldBy_33 ⟨Nat.le_of_ble_eq_true rfl, Nat.le_of_ble_eq_true rfl⟩ (fun w1 H locs hpo hP hD hS => ?_)
    subst hpo
    obtain ⟨hP, hD⟩ := nx (ws' := [(x0, .inr (4, [.ref h0, .ref d0, .ref k0, .int (nI ik), .ref b0, .ref a0, .ref t0, .ref r0, .int (nI rn), .ref r1])), (h0, .inr (0, [.ref h1, .ref h2, .int (nI sk), .int (nI ek), .int (nI tr)])), (h2, .inl (eI g, 5, .inl (fun j => nI (B j)))), (b0, .inr (1, [.ref b1, .int (nI (B 0))])), (b1, .inl (eI g, 7, .inl (fun j => nI ((layQ sk (B 0) (B 1) (rw_ i) qq (B 0)) j)))), (r0, .inl (eI g, 12, .inl (fun j => nI (rw_ j))))]) hP hD [0, 4, 5, 2, 3, 1] (ndB_ok _ rfl) rfl
    refine lv_aload_n hx hb dX4_rowIsToldBy_36 rfl (lv_at hl 0 rfl) ?_
    refine xget F hP inX4_rowIsToldBy_X4 0 rfl rfl 4 (by decide) lkX4_rowIsToldBy_2 rfl dX4_rowIsToldBy_37 ?_
    refine lv_iload_n hx hb dX4_rowIsToldBy_40 rfl (lv_at hl 1 rfl) ?_
    refine lv_iload_n hx hb dX4_rowIsToldBy_41 rfl (lv_at hl 2 rfl) ?_
    refine lv_aload_n hx hb dX4_rowIsToldBy_42 rfl (lv_at hl 0 rfl) ?_
    refine xget F hP inX4_rowIsToldBy_X4 0 rfl rfl 7 (by decide) lkX4_rowIsToldBy_5 rfl dX4_rowIsToldBy_43 ?_
    refine lv_iload_n hx hb dX4_rowIsToldBy_46 rfl (lv_at hl 3 rfl) ?_
    refine lv_iconst (v := (nI 1)) hx hb dX4_rowIsToldBy_47 (by decide) ?_
    refine xadd hx hb dX4_rowIsToldBy_48 ?_
    refine xald F hP 5 (v := (nI (rw_ (i + 1)))) rfl (by omega) (by omega) rfl dX4_rowIsToldBy_49 ?_
    have hbd3 := hrw (i + 1)
    refine cVI (As := [.int (nI ey), .int (nI fg), .int (nI (rw_ (i + 1)))]) (rest := []) F (c_X1_tell l g b0 b1 (layQ sk (B 0) (B 1) (rw_ i) qq (B 0)) (B 0) ey fg (rw_ (i + 1)) (by omega) (by omega) (layQ_b) (hey) (hfg) (by have := hok2 (i + 1) (by omega); omega)) kX1_tell rfl gX4_rowIsToldBy_X1_tell rfl rfl ⟨Nat.le_of_ble_eq_true rfl, Nat.le_of_ble_eq_true rfl⟩ hP hD hS [3, 4] [0, 1, 2, 5] rfl rfl 0 rfl rfl hl.1 rfl rfl (Nat.le_of_ble_eq_true rfl) dX4_rowIsToldBy_50 ⟨Nat.le_of_ble_eq_true rfl, Nat.le_of_ble_eq_true rfl⟩ (fun rz w1 H locs hpo hP hD hS => ?_)
    obtain ⟨rfl, rfl⟩ := hpo
    obtain ⟨hP, hD⟩ := nx (ws' := [(x0, .inr (4, [.ref h0, .ref d0, .ref k0, .int (nI ik), .ref b0, .ref a0, .ref t0, .ref r0, .int (nI rn), .ref r1])), (h0, .inr (0, [.ref h1, .ref h2, .int (nI sk), .int (nI ek), .int (nI tr)])), (h2, .inl (eI g, 5, .inl (fun j => nI (B j)))), (b0, .inr (1, [.ref b1, .int (nI (B 0))])), (b1, .inl (eI g, 7, .inl (fun j => nI ((layQ sk (B 0) (B 1) (rw_ i) qq (B 0)) j)))), (r0, .inl (eI g, 12, .inl (fun j => nI (rw_ j))))]) hP hD [0, 1, 2, 4, 5, 3] (ndB_ok _ rfl) rfl
    refine sti (congrArg nI (show tellQ (layQ sk (B 0) (B 1) (rw_ i) qq (B 0)) (B 0) ey fg (rw_ (i + 1)) = tl (B 0) (B 1) fg sk ey (rw_ i) (rw_ (i + 1)) from tell_lay (by omega))) ?_
    have htb_ := tl9 (nb := B 0) (st := B 1) (fg := fg) (sk := sk) (ek := ey) (v := rw_ i) (r := rw_ (i + 1)) (by omega) (by omega)
    refine lv_aload_n hx hb dX4_rowIsToldBy_53 rfl (lv_at hl 0 rfl) ?_
    refine xget F hP inX4_rowIsToldBy_X4 0 rfl rfl 7 (by decide) lkX4_rowIsToldBy_5 rfl dX4_rowIsToldBy_54 ?_
    refine lv_iload_n hx hb dX4_rowIsToldBy_57 rfl (lv_at hl 3 rfl) ?_
    refine lv_iconst (v := (nI 2)) hx hb dX4_rowIsToldBy_58 (by decide) ?_
    refine xadd hx hb dX4_rowIsToldBy_59 ?_
    refine xald F hP 5 (v := (nI (rw_ (i + 2)))) rfl (by omega) (by omega) rfl dX4_rowIsToldBy_60 ?_
    have hbd5 := hrw (i + 2)
    refine xeq (tgt := 66) hx hb dX4_rowIsToldBy_61 (by decide) (by omega) (by omega) (fun c61 => ?_) (fun c61 => ?_)
    · skip
      refine lv_iinc (v := (nI (i + 3))) (lv' := [(3, .int (nI (i + 3))), (0, .ref x0), (1, .int (nI ey)), (2, .int (nI fg))]) hx hb dX4_rowIsToldBy_66 hl (k := 3) rfl (iincP i 3) (by decide) rfl (fun ls hl => ?_)
      refine lv_goto (tgt := 2) hx hb dX4_rowIsToldBy_69 (by decide) ?_
      exact ih2 (i + 3, (layQ sk (B 0) (B 1) (rw_ i) qq (B 0)), (B 0)) (show (∀ j, j < (i + 3) → j % 3 = 0 → tl (B 0) (B 1) fg sk ey (rw_ j) (rw_ (j + 1)) = rw_ (j + 2)) ∧ (i + 3) % 3 = 0 ∧ (i + 3) ≤ rn from (⟨tr_3 hI0 hi3 c61, by omega, by omega⟩)) (show rn - (i + 3) < rn - i from (by omega)) _ _ _ hP hD hS (lv_sub hl [1, 2, 3, 0] rfl)
    · skip
      refine lv_iconst (v := (nI 0)) hx hb dX4_rowIsToldBy_64 (by decide) ?_
      exact rtZ F hP hD hS dX4_rowIsToldBy_65 (rfl) (⟨_, _, by rw [if_neg (fun z => c61 (z i (by omega) hi3))], rfl⟩)

theorem inX4_leftBehindTwo_X4 : ∀ w ∈ u_ws RX4 TX4 10, w ∈ wsX4_leftBehindTwo := fun _ h => (List.mem_cons_of_mem _ (List.mem_append_left _ (List.mem_append_left _ (List.mem_append_right _ h))))
theorem lkX4_leftBehindTwo_1 : Cond.fieldLink RX4 51 "StripInFiveSteps" "rowSize" "I" ∈ wsX4_leftBehindTwo := List.mem_of_getElem? (i := 1) rfl
theorem lkX4_leftBehindTwo_2 : Cond.fieldLink RX4 47 "StripInFiveSteps" "rowNumbers" "[I" ∈ wsX4_leftBehindTwo := List.mem_of_getElem? (i := 2) rfl
theorem lkX4_leftBehindTwo_3 : Cond.fieldLink RX4 10 "StripInFiveSteps" "now" "LStripInFiveSteps$Shed;" ∈ wsX4_leftBehindTwo := List.mem_of_getElem? (i := 3) rfl
theorem lkX4_leftBehindTwo_4 : Cond.fieldLink RX4 29 "StripInFiveSteps" "strip" "LStripInFiveSteps$Strip;" ∈ wsX4_leftBehindTwo := List.mem_of_getElem? (i := 4) rfl
theorem kX4_leftBehindTwo : Cal yX4_leftBehindTwo wsX4_leftBehindTwo cX4_leftBehindTwo 4 (some .long) 2 := ⟨⟨_, rfl⟩, by decide +kernel⟩
set_option maxHeartbeats 4000000 in
set_option maxRecDepth 100000 in
theorem c_X4_leftBehindTwo (l : Launch) (g : EE) (x0 : Nat) (h0 : Nat) (d0 : Nat) (k0 : Nat) (b0 : Nat) (a0 : Nat) (t0 : Nat) (r0 : Nat) (r1 : Nat) (ik : Nat) (rn : Nat) (h1 : Nat) (h2 : Nat) (W : Nat → Nat) (B : Nat → Nat) (sk : Nat) (ek : Nat) (tr : Nat) (b1 : Nat) (q : Nat → Nat) (n : Nat) (rw_ : Nat → Nat) (i : Nat) (x : Int64) (hW : ∀ j, W j ≤ 9) (hB : okB B) (hsk : sk ≤ 3) (hek : ek ≤ 4) (hrn : rn ≤ 12) (hrw : ∀ j, rw_ j ≤ 99) (hi : i < 20) : CL l yX4_leftBehindTwo wsX4_leftBehindTwo ({ frames := 4, cells := 0, slots := 0, locals := 98 }) g [.ref x0, .int (nI i), .long x] [(x0, .inr (4, [.ref h0, .ref d0, .ref k0, .int (nI ik), .ref b0, .ref a0, .ref t0, .ref r0, .int (nI rn), .ref r1])), (h0, .inr (0, [.ref h1, .ref h2, .int (nI sk), .int (nI ek), .int (nI tr)])), (h1, .inl (eI g, 41, .inl (fun j => nI (W j)))), (h2, .inl (eI g, 5, .inl (fun j => nI (B j)))), (b0, .inr (1, [.ref b1, .int (nI n)])), (b1, .inl (eI g, 7, .inl (fun j => nI (q j)))), (r0, .inl (eI g, 12, .inl (fun j => nI (rw_ j))))] (fun (rz : Int64) (wz : va_W) => ∃ q9 : Nat → Nat, ∃ n9 : Nat, rz = (lbT W B sk ek rw_ rn i x) ∧ wz = [(x0, .inr (4, [.ref h0, .ref d0, .ref k0, .int (nI ik), .ref b0, .ref a0, .ref t0, .ref r0, .int (nI rn), .ref r1])), (h0, .inr (0, [.ref h1, .ref h2, .int (nI sk), .int (nI ek), .int (nI tr)])), (h1, .inl (eI g, 41, .inl (fun j => nI (W j)))), (h2, .inl (eI g, 5, .inl (fun j => nI (B j)))), (b0, .inr (1, [.ref b1, .int (nI n9)])), (b1, .inl (eI g, 7, .inl (fun j => nI (q9 j)))), (r0, .inl (eI g, 12, .inl (fun j => nI (rw_ j))))]) 0 0 := by
  refine ctL (cc := cX4_leftBehindTwo) (maxL := 4) (ret := (some .long)) (by decide) rfl (Nat.le_of_ble_eq_true rfl) ?_
  intro p_ e_ s_ m_ bl_ mt_ cd_ A ls F hnm hP hD hS hl
  obtain ⟨hx, hb, hml, hown, hts, hK, hX, hA, hrt_, hlocks⟩ := id F
  have hl : lv_has ls 4 [(0, .ref x0), (1, .int (nI i)), (2, .long x)] := hl
  obtain ⟨hb0, hb1, hb2, hb3, hb4, hb5⟩ := okB_b hB
  refine lv_iload_n hx hb dX4_leftBehindTwo_0 rfl (lv_at hl 1 rfl) ?_
  refine zlt (tgt := 26) hx hb dX4_leftBehindTwo_1 (by decide) (by omega) ?_
  refine lv_iload_n hx hb dX4_leftBehindTwo_4 rfl (lv_at hl 1 rfl) ?_
  refine lv_iconst (v := (nI 1)) hx hb dX4_leftBehindTwo_5 (by decide) ?_
  refine xadd hx hb dX4_leftBehindTwo_6 ?_
  refine lv_aload_n hx hb dX4_leftBehindTwo_7 rfl (lv_at hl 0 rfl) ?_
  refine xget F hP inX4_leftBehindTwo_X4 0 rfl rfl 8 (by decide) lkX4_leftBehindTwo_1 rfl dX4_leftBehindTwo_8 ?_
  refine xge (tgt := 26) hx hb dX4_leftBehindTwo_11 (by decide) (by omega) (by omega) (fun c11 => ?_) (fun c11 => ?_)
  · skip
    refine lv_lconst (v := lN 0) hx hb dX4_leftBehindTwo_26 rfl ?_
    exact rtL F hP hD hS dX4_leftBehindTwo_27 (⟨_, _, by unfold lbT; rw [if_neg (by omega)], rfl⟩)
  · skip
    refine lv_aload_n hx hb dX4_leftBehindTwo_14 rfl (lv_at hl 0 rfl) ?_
    refine xget F hP inX4_leftBehindTwo_X4 0 rfl rfl 7 (by decide) lkX4_leftBehindTwo_2 rfl dX4_leftBehindTwo_15 ?_
    refine lv_iload_n hx hb dX4_leftBehindTwo_18 rfl (lv_at hl 1 rfl) ?_
    refine xald F hP 6 (v := (nI (rw_ i))) rfl (by omega) (by omega) rfl dX4_leftBehindTwo_19 ?_
    have hbd1 := hrw (i)
    refine cSI (As := [.int (nI (rw_ i))]) (rest := []) F (n_X4_isSecond l g (rw_ i) (by omega)) kX4_isSecond gX4_leftBehindTwo_X4_isSecond rfl rfl ⟨Nat.le_of_ble_eq_true rfl, Nat.le_of_ble_eq_true rfl⟩ hP hD hS [] [0, 1, 2, 3, 4, 5, 6] rfl rfl hl.1 rfl rfl (Nat.le_of_ble_eq_true rfl) dX4_leftBehindTwo_20 ⟨Nat.le_of_ble_eq_true rfl, Nat.le_of_ble_eq_true rfl⟩ (fun rz w1 H locs hpo hP hD hS => ?_)
    obtain ⟨rfl, rfl⟩ := hpo
    obtain ⟨hP, hD⟩ := nx (ws' := [(x0, .inr (4, [.ref h0, .ref d0, .ref k0, .int (nI ik), .ref b0, .ref a0, .ref t0, .ref r0, .int (nI rn), .ref r1])), (h0, .inr (0, [.ref h1, .ref h2, .int (nI sk), .int (nI ek), .int (nI tr)])), (h1, .inl (eI g, 41, .inl (fun j => nI (W j)))), (h2, .inl (eI g, 5, .inl (fun j => nI (B j)))), (b0, .inr (1, [.ref b1, .int (nI n)])), (b1, .inl (eI g, 7, .inl (fun j => nI (q j)))), (r0, .inl (eI g, 12, .inl (fun j => nI (rw_ j))))]) hP hD [0, 1, 2, 3, 4, 5, 6] (ndB_ok _ rfl) rfl
    refine bqne (tgt := 28) hx hb dX4_leftBehindTwo_23 (by decide) (fun c23 => ?_) (fun c23 => ?_)
    · skip
      refine lv_lload_n hx hb dX4_leftBehindTwo_28 rfl (lv_at hl 2 rfl) ?_
      refine lv_aload_n hx hb dX4_leftBehindTwo_29 rfl (lv_at hl 0 rfl) ?_
      refine xget F hP inX4_leftBehindTwo_X4 0 rfl rfl 0 (by decide) lkX4_leftBehindTwo_3 rfl dX4_leftBehindTwo_30 ?_
      refine lv_aload_n hx hb dX4_leftBehindTwo_33 rfl (lv_at hl 0 rfl) ?_
      refine xget F hP inX4_leftBehindTwo_X4 0 rfl rfl 4 (by decide) lkX4_leftBehindTwo_4 rfl dX4_leftBehindTwo_34 ?_
      refine lv_aload_n hx hb dX4_leftBehindTwo_37 rfl (lv_at hl 0 rfl) ?_
      refine xget F hP inX4_leftBehindTwo_X4 0 rfl rfl 7 (by decide) lkX4_leftBehindTwo_2 rfl dX4_leftBehindTwo_38 ?_
      refine lv_iload_n hx hb dX4_leftBehindTwo_41 rfl (lv_at hl 1 rfl) ?_
      refine xald F hP 6 (v := (nI (rw_ i))) rfl (by omega) (by omega) rfl dX4_leftBehindTwo_42 ?_
      have hbd3 := hrw (i)
      refine lv_aload_n hx hb dX4_leftBehindTwo_43 rfl (lv_at hl 0 rfl) ?_
      refine xget F hP inX4_leftBehindTwo_X4 0 rfl rfl 7 (by decide) lkX4_leftBehindTwo_2 rfl dX4_leftBehindTwo_44 ?_
      refine lv_iload_n hx hb dX4_leftBehindTwo_47 rfl (lv_at hl 1 rfl) ?_
      refine lv_iconst (v := (nI 1)) hx hb dX4_leftBehindTwo_48 (by decide) ?_
      refine xadd hx hb dX4_leftBehindTwo_49 ?_
      refine xald F hP 6 (v := (nI (rw_ (i + 1)))) rfl (by omega) (by omega) rfl dX4_leftBehindTwo_50 ?_
      have hbd4 := hrw (i + 1)
      refine cVL (As := [.ref b0, .int (nI (rw_ i)), .int (nI (rw_ (i + 1)))]) (rest := [.long x]) F (c_X0_leftIfTold l g h0 h1 h2 W B sk ek tr b0 b1 q n (rw_ i) (rw_ (i + 1)) (hW) (hB) (hsk) (hek) (by omega) (by omega)) kX0_leftIfTold rfl gX4_leftBehindTwo_X0_leftIfTold rfl rfl ⟨Nat.le_of_ble_eq_true rfl, Nat.le_of_ble_eq_true rfl⟩ hP hD hS [1, 2, 3, 4, 5] [0, 6] rfl rfl 0 rfl rfl hl.1 rfl rfl (Nat.le_of_ble_eq_true rfl) dX4_leftBehindTwo_51 ⟨Nat.le_of_ble_eq_true rfl, Nat.le_of_ble_eq_true rfl⟩ (fun rz w1 H locs hpo hP hD hS => ?_)
      obtain ⟨rfl, rfl⟩ := hpo
      obtain ⟨hP, hD⟩ := nx (ws' := [(x0, .inr (4, [.ref h0, .ref d0, .ref k0, .int (nI ik), .ref b0, .ref a0, .ref t0, .ref r0, .int (nI rn), .ref r1])), (h0, .inr (0, [.ref h1, .ref h2, .int (nI sk), .int (nI ek), .int (nI tr)])), (h1, .inl (eI g, 41, .inl (fun j => nI (W j)))), (h2, .inl (eI g, 5, .inl (fun j => nI (B j)))), (b0, .inr (1, [.ref b1, .int (nI (B 0))])), (b1, .inl (eI g, 7, .inl (fun j => nI ((layQ sk (B 0) (B 1) (rw_ i) q (B 0)) j)))), (r0, .inl (eI g, 12, .inl (fun j => nI (rw_ j))))]) hP hD [0, 2, 3, 4, 5, 6, 1] (ndB_ok _ rfl) rfl
      refine lv_land hx hb dX4_leftBehindTwo_54 ?_
      exact rtL F hP hD hS dX4_leftBehindTwo_55 (⟨_, _, by unfold lbT; rw [if_pos (by omega)], rfl⟩)
    · skip
      refine lv_lconst (v := lN 0) hx hb dX4_leftBehindTwo_26 rfl ?_
      exact rtL F hP hD hS dX4_leftBehindTwo_27 (⟨_, _, by unfold lbT; rw [if_neg (by omega)], rfl⟩)
