theorem inX4_stays_X4 : ∀ w ∈ u_ws RX4 TX4 10, w ∈ wsX4_stays := fun _ h => (List.mem_cons_of_mem _ (List.mem_append_left _ (List.mem_append_left _ (List.mem_append_right _ h))))
theorem lkX4_stays_1 : Cond.fieldLink RX4 10 "StripInFiveSteps" "now" "LStripInFiveSteps$Shed;" ∈ wsX4_stays := List.mem_of_getElem? (i := 1) rfl
theorem lkX4_stays_2 : Cond.fieldLink RX4 51 "StripInFiveSteps" "rowSize" "I" ∈ wsX4_stays := List.mem_of_getElem? (i := 2) rfl
theorem kX4_stays : Cal yX4_stays wsX4_stays cX4_stays 6 (some .int) 0 := ⟨⟨_, rfl⟩, by decide +kernel⟩
set_option maxHeartbeats 1000000 in
set_option maxRecDepth 100000 in
theorem c_X4_stays (l : Launch) (g : EE) (x0 : Nat) (h0 : Nat) (d0 : Nat) (k0 : Nat) (b0 : Nat) (a0 : Nat) (t0 : Nat) (r0 : Nat) (r1 : Nat) (ik : Nat) (rn : Nat) (h1 : Nat) (h2 : Nat) (W : Nat → Nat) (B : Nat → Nat) (sk : Nat) (ek : Nat) (tr : Nat) (b1 : Nat) (q : Nat → Nat) (n : Nat) (rw_ : Nat → Nat) (hW : ∀ j, W j ≤ 9) (hB : okB B) (hsk : sk ≤ 3) (hek : ek ≤ 4) (hrn : rn ≤ 12) (hrw : ∀ j, rw_ j ≤ 99) : CI l yX4_stays wsX4_stays ({ frames := 5, cells := 0, slots := 0, locals := 121 }) g [.ref x0] [(x0, .inr (4, [.ref h0, .ref d0, .ref k0, .int (nI ik), .ref b0, .ref a0, .ref t0, .ref r0, .int (nI rn), .ref r1])), (h0, .inr (0, [.ref h1, .ref h2, .int (nI sk), .int (nI ek), .int (nI tr)])), (h1, .inl (eI g, 41, .inl (fun j => nI (W j)))), (h2, .inl (eI g, 5, .inl (fun j => nI (B j)))), (b0, .inr (1, [.ref b1, .int (nI n)])), (b1, .inl (eI g, 7, .inl (fun j => nI (q j)))), (r0, .inl (eI g, 12, .inl (fun j => nI (rw_ j))))] (fun (rz : Int32) (wz : va_W) => ∃ q9 : Nat → Nat, ∃ n9 : Nat, rz = (nI (cnS (rwS (tlT B sk ek) rw_ rn 7 0 (lpB W)).1)) ∧ wz = [(x0, .inr (4, [.ref h0, .ref d0, .ref k0, .int (nI ik), .ref b0, .ref a0, .ref t0, .ref r0, .int (nI rn), .ref r1])), (h0, .inr (0, [.ref h1, .ref h2, .int (nI sk), .int (nI ek), .int (nI tr)])), (h1, .inl (eI g, 41, .inl (fun j => nI (W j)))), (h2, .inl (eI g, 5, .inl (fun j => nI (B j)))), (b0, .inr (1, [.ref b1, .int (nI n9)])), (b1, .inl (eI g, 7, .inl (fun j => nI (q9 j)))), (r0, .inl (eI g, 12, .inl (fun j => nI (rw_ j))))]) 0 0 := by
  refine ctI (cc := cX4_stays) (maxL := 6) (ret := (some .int)) (by decide) rfl (Nat.le_of_ble_eq_true rfl) ?_
  intro p_ e_ s_ m_ bl_ mt_ cd_ A ls F hnm hP hD hS hl
  obtain ⟨hx, hb, hml, hown, hts, hK, hX, hA, hrt_, hlocks⟩ := id F
  have hl : lv_has ls 6 [(0, .ref x0)] := hl
  obtain ⟨hb0, hb1, hb2, hb3, hb4, hb5⟩ := okB_b hB
  refine lv_aload_n hx hb dX4_stays_0 rfl (lv_at hl 0 rfl) ?_
  refine xget F hP inX4_stays_X4 0 rfl rfl 0 (by decide) lkX4_stays_1 rfl dX4_stays_1 ?_
  refine cVL (As := []) (rest := []) F (c_X0_left l g h0 h1 h2 W B sk ek tr (hW)) kX0_left rfl gX4_stays_X0_left rfl rfl ⟨Nat.le_of_ble_eq_true rfl, Nat.le_of_ble_eq_true rfl⟩ hP hD hS [1, 2, 3] [0, 4, 5, 6] rfl rfl 0 rfl rfl hl.1 rfl rfl (Nat.le_of_ble_eq_true rfl) dX4_stays_4 ⟨Nat.le_of_ble_eq_true rfl, Nat.le_of_ble_eq_true rfl⟩ (fun rz w1 H locs hpo hP hD hS => ?_)
  obtain ⟨rfl, rfl⟩ := hpo
  obtain ⟨hP, hD⟩ := nx (ws' := [(x0, .inr (4, [.ref h0, .ref d0, .ref k0, .int (nI ik), .ref b0, .ref a0, .ref t0, .ref r0, .int (nI rn), .ref r1])), (h0, .inr (0, [.ref h1, .ref h2, .int (nI sk), .int (nI ek), .int (nI tr)])), (h1, .inl (eI g, 41, .inl (fun j => nI (W j)))), (h2, .inl (eI g, 5, .inl (fun j => nI (B j)))), (b0, .inr (1, [.ref b1, .int (nI n)])), (b1, .inl (eI g, 7, .inl (fun j => nI (q j)))), (r0, .inl (eI g, 12, .inl (fun j => nI (rw_ j))))]) hP hD [0, 4, 5, 6, 1, 2, 3] (ndB_ok _ rfl) rfl
  refine lv_lstore_n (lv' := [(1, .long (lfM W)), (0, .ref x0)]) hx hb dX4_stays_7 rfl hl (by decide) rfl (fun ls hl => ?_)
  refine lv_iconst (v := (nI 0)) hx hb dX4_stays_8 (by decide) ?_
  refine lv_istore_n (lv' := [(3, .int (nI 0)), (1, .long (lfM W)), (0, .ref x0)]) hx hb dX4_stays_9 rfl hl (by decide) rfl (fun ls hl => ?_)
  refine xlo (σ := Nat × Int64 × (Nat → Nat) × Nat) 6 (fun xz_ => (fun (i : Nat) (x : Int64) (qq : Nat → Nat) (nn : Nat) => [(0, .ref x0), (1, .long x), (3, .int (nI i))]) xz_.1 xz_.2.1 xz_.2.2.1 xz_.2.2.2) (fun xz_ => (fun (i : Nat) (x : Int64) (qq : Nat → Nat) (nn : Nat) => [(x0, .inr (4, [.ref h0, .ref d0, .ref k0, .int (nI ik), .ref b0, .ref a0, .ref t0, .ref r0, .int (nI rn), .ref r1])), (h0, .inr (0, [.ref h1, .ref h2, .int (nI sk), .int (nI ek), .int (nI tr)])), (h1, .inl (eI g, 41, .inl (fun j => nI (W j)))), (h2, .inl (eI g, 5, .inl (fun j => nI (B j)))), (b0, .inr (1, [.ref b1, .int (nI nn)])), (b1, .inl (eI g, 7, .inl (fun j => nI (qq j)))), (r0, .inl (eI g, 12, .inl (fun j => nI (rw_ j))))]) xz_.1 xz_.2.1 xz_.2.2.1 xz_.2.2.2) (fun xz_ => (fun (i : Nat) (x : Int64) (qq : Nat → Nat) (nn : Nat) => (∀ r, bitL x r = true → lpB W r = true) ∧ rwS (tlT B sk ek) rw_ rn 7 0 (lpB W) = rwS (tlT B sk ek) rw_ rn (7 - i / 2) i (bitL x) ∧ i % 2 = 0 ∧ i ≤ rn + 1) xz_.1 xz_.2.1 xz_.2.2.1 xz_.2.2.2) (fun xz_ => (fun (i : Nat) (x : Int64) (qq : Nat → Nat) (nn : Nat) => rn + 2 - i) xz_.1 xz_.2.1 xz_.2.2.1 xz_.2.2.2) (fun xz_ hI ih10 H locs ls hP hD hS hl => ?_) (0, lfM W, q, n) (show (∀ r, bitL (lfM W) r = true → lpB W r = true) ∧ rwS (tlT B sk ek) rw_ rn 7 0 (lpB W) = rwS (tlT B sk ek) rw_ rn (7 - 0 / 2) 0 (bitL (lfM W)) ∧ 0 % 2 = 0 ∧ 0 ≤ rn + 1 from (⟨sub_0 W, by rw [bitL_lfM], by omega, by omega⟩)) hP hD hS (lv_sub hl [2, 1, 0] rfl)
  obtain ⟨i, x, qq, nn⟩ := xz_
  have hP : va_P (eD g) vwCl [(x0, .inr (4, [.ref h0, .ref d0, .ref k0, .int (nI ik), .ref b0, .ref a0, .ref t0, .ref r0, .int (nI rn), .ref r1])), (h0, .inr (0, [.ref h1, .ref h2, .int (nI sk), .int (nI ek), .int (nI tr)])), (h1, .inl (eI g, 41, .inl (fun j => nI (W j)))), (h2, .inl (eI g, 5, .inl (fun j => nI (B j)))), (b0, .inr (1, [.ref b1, .int (nI nn)])), (b1, .inl (eI g, 7, .inl (fun j => nI (qq j)))), (r0, .inl (eI g, 12, .inl (fun j => nI (rw_ j))))] H := hP
  have hD : va_D A [(x0, .inr (4, [.ref h0, .ref d0, .ref k0, .int (nI ik), .ref b0, .ref a0, .ref t0, .ref r0, .int (nI rn), .ref r1])), (h0, .inr (0, [.ref h1, .ref h2, .int (nI sk), .int (nI ek), .int (nI tr)])), (h1, .inl (eI g, 41, .inl (fun j => nI (W j)))), (h2, .inl (eI g, 5, .inl (fun j => nI (B j)))), (b0, .inr (1, [.ref b1, .int (nI nn)])), (b1, .inl (eI g, 7, .inl (fun j => nI (qq j)))), (r0, .inl (eI g, 12, .inl (fun j => nI (rw_ j))))] := hD
  have hl : lv_has ls 6 [(0, .ref x0), (1, .long x), (3, .int (nI i))] := hl
  have hI10 : (∀ r, bitL x r = true → lpB W r = true) ∧ rwS (tlT B sk ek) rw_ rn 7 0 (lpB W) = rwS (tlT B sk ek) rw_ rn (7 - i / 2) i (bitL x) ∧ i % 2 = 0 ∧ i ≤ rn + 1 := hI
  clear hI
  obtain ⟨hsub, hrwS, hi2, hin⟩ := id hI10
  refine lv_iload_n hx hb dX4_stays_10 rfl (lv_at hl 2 rfl) ?_
  refine lv_aload_n hx hb dX4_stays_11 rfl (lv_at hl 0 rfl) ?_
  refine xget F hP inX4_stays_X4 0 rfl rfl 8 (by decide) lkX4_stays_2 rfl dX4_stays_12 ?_
  refine xge (tgt := 45) hx hb dX4_stays_15 (by decide) (by omega) (by omega) (fun c15 => ?_) (fun c15 => ?_)
  · skip
    refine lv_lload_n hx hb dX4_stays_45 rfl (lv_at hl 1 rfl) ?_
    refine cSI (As := [.long x]) (rest := []) F (c_X4_size l g x (sub_inS hsub)) kX4_size gX4_stays_X4_size rfl rfl ⟨Nat.le_of_ble_eq_true rfl, Nat.le_of_ble_eq_true rfl⟩ hP hD hS [] [0, 1, 2, 3, 4, 5, 6] rfl rfl hl.1 rfl rfl (Nat.le_of_ble_eq_true rfl) dX4_stays_46 ⟨Nat.le_of_ble_eq_true rfl, Nat.le_of_ble_eq_true rfl⟩ (fun rz w1 H locs hpo hP hD hS => ?_)
    obtain ⟨rfl, rfl⟩ := hpo
    obtain ⟨hP, hD⟩ := nx (ws' := [(x0, .inr (4, [.ref h0, .ref d0, .ref k0, .int (nI ik), .ref b0, .ref a0, .ref t0, .ref r0, .int (nI rn), .ref r1])), (h0, .inr (0, [.ref h1, .ref h2, .int (nI sk), .int (nI ek), .int (nI tr)])), (h1, .inl (eI g, 41, .inl (fun j => nI (W j)))), (h2, .inl (eI g, 5, .inl (fun j => nI (B j)))), (b0, .inr (1, [.ref b1, .int (nI nn)])), (b1, .inl (eI g, 7, .inl (fun j => nI (qq j)))), (r0, .inl (eI g, 12, .inl (fun j => nI (rw_ j))))]) hP hD [0, 1, 2, 3, 4, 5, 6] (ndB_ok _ rfl) rfl
    exact rtI F hP hD hS dX4_stays_49 (⟨_, _, congrArg (fun z => nI (cnS z)) (by rw [hrwS, rw_end (by omega) (by omega)]), rfl⟩)
  · skip
    refine lv_aload_n hx hb dX4_stays_18 rfl (lv_at hl 0 rfl) ?_
    refine lv_iload_n hx hb dX4_stays_19 rfl (lv_at hl 2 rfl) ?_
    refine lv_lload_n hx hb dX4_stays_20 rfl (lv_at hl 1 rfl) ?_
    refine cVL (As := [.int (nI i), .long x]) (rest := []) F (c_X4_leftBehindTwo l g x0 h0 d0 k0 b0 a0 t0 r0 r1 ik rn h1 h2 W B sk ek tr b1 qq nn rw_ i x (hW) (hB) (hsk) (hek) (hrn) (hrw) (by omega)) kX4_leftBehindTwo rfl gX4_stays_X4_leftBehindTwo rfl rfl ⟨Nat.le_of_ble_eq_true rfl, Nat.le_of_ble_eq_true rfl⟩ hP hD hS [0, 1, 2, 3, 4, 5, 6] [] rfl rfl 0 rfl rfl hl.1 rfl rfl (Nat.le_of_ble_eq_true rfl) dX4_stays_21 ⟨Nat.le_of_ble_eq_true rfl, Nat.le_of_ble_eq_true rfl⟩ (fun rz w1 H locs hpo hP hD hS => ?_)
    obtain ⟨q9_3, n9_3, rfl, rfl⟩ := hpo
    obtain ⟨hP, hD⟩ := nx (ws' := [(x0, .inr (4, [.ref h0, .ref d0, .ref k0, .int (nI ik), .ref b0, .ref a0, .ref t0, .ref r0, .int (nI rn), .ref r1])), (h0, .inr (0, [.ref h1, .ref h2, .int (nI sk), .int (nI ek), .int (nI tr)])), (h1, .inl (eI g, 41, .inl (fun j => nI (W j)))), (h2, .inl (eI g, 5, .inl (fun j => nI (B j)))), (b0, .inr (1, [.ref b1, .int (nI n9_3)])), (b1, .inl (eI g, 7, .inl (fun j => nI (q9_3 j)))), (r0, .inl (eI g, 12, .inl (fun j => nI (rw_ j))))]) hP hD [0, 1, 2, 3, 4, 5, 6] (ndB_ok _ rfl) rfl
    refine lv_lstore (lv' := [(4, .long (lbT W B sk ek rw_ rn i x)), (0, .ref x0), (1, .long x), (3, .int (nI i))]) hx hb dX4_stays_24 hl (by decide) rfl (fun ls hl => ?_)
    refine lv_lload hx hb dX4_stays_26 (lv_at hl 0 rfl) ?_
    refine lv_lconst (v := lN 0) hx hb dX4_stays_28 rfl ?_
    refine jne (tgt := 36) hx hb dX4_stays_29 dX4_stays_30 (by decide) (fun c30 => ?_) (fun c30 => ?_)
    · skip
      refine lv_lload hx hb dX4_stays_36 (lv_at hl 0 rfl) ?_
      refine lv_lstore_n (lv' := [(1, .long (lbT W B sk ek rw_ rn i x)), (4, .long (lbT W B sk ek rw_ rn i x)), (0, .ref x0), (3, .int (nI i))]) hx hb dX4_stays_38 rfl hl (by decide) rfl (fun ls hl => ?_)
      refine lv_iinc (v := (nI (i + 2))) (lv' := [(3, .int (nI (i + 2))), (1, .long (lbT W B sk ek rw_ rn i x)), (4, .long (lbT W B sk ek rw_ rn i x)), (0, .ref x0)]) hx hb dX4_stays_39 hl (k := 3) rfl (iincP i 2) (by decide) rfl (fun ls hl => ?_)
      refine lv_goto (tgt := 10) hx hb dX4_stays_42 (by decide) ?_
      exact ih10 (i + 2, lbT W B sk ek rw_ rn i x, q9_3, n9_3) (show (∀ r, bitL (lbT W B sk ek rw_ rn i x) r = true → lpB W r = true) ∧ rwS (tlT B sk ek) rw_ rn 7 0 (lpB W) = rwS (tlT B sk ek) rw_ rn (7 - (i + 2) / 2) (i + 2) (bitL (lbT W B sk ek rw_ rn i x)) ∧ (i + 2) % 2 = 0 ∧ (i + 2) ≤ rn + 1 from (⟨lb_sub hsub c30, by rw [(lb_go hsub c30).2]; exact hrwS.trans (rw_go hi2 (by omega) (by omega) (lb_go hsub c30).1), by omega, by omega⟩)) (show rn + 2 - (i + 2) < rn + 2 - i from (by omega)) _ _ _ hP hD hS (lv_sub hl [3, 1, 0] rfl)
    · skip
      refine lv_goto (tgt := 45) hx hb dX4_stays_33 (by decide) ?_
      refine lv_lload_n hx hb dX4_stays_45 rfl (lv_at hl 2 rfl) ?_
      refine cSI (As := [.long x]) (rest := []) F (c_X4_size l g x (sub_inS hsub)) kX4_size gX4_stays_X4_size rfl rfl ⟨Nat.le_of_ble_eq_true rfl, Nat.le_of_ble_eq_true rfl⟩ hP hD hS [] [0, 1, 2, 3, 4, 5, 6] rfl rfl hl.1 rfl rfl (Nat.le_of_ble_eq_true rfl) dX4_stays_46 ⟨Nat.le_of_ble_eq_true rfl, Nat.le_of_ble_eq_true rfl⟩ (fun rz w1 H locs hpo hP hD hS => ?_)
      obtain ⟨rfl, rfl⟩ := hpo
      obtain ⟨hP, hD⟩ := nx (ws' := [(x0, .inr (4, [.ref h0, .ref d0, .ref k0, .int (nI ik), .ref b0, .ref a0, .ref t0, .ref r0, .int (nI rn), .ref r1])), (h0, .inr (0, [.ref h1, .ref h2, .int (nI sk), .int (nI ek), .int (nI tr)])), (h1, .inl (eI g, 41, .inl (fun j => nI (W j)))), (h2, .inl (eI g, 5, .inl (fun j => nI (B j)))), (b0, .inr (1, [.ref b1, .int (nI n9_3)])), (b1, .inl (eI g, 7, .inl (fun j => nI (q9_3 j)))), (r0, .inl (eI g, 12, .inl (fun j => nI (rw_ j))))]) hP hD [0, 1, 2, 3, 4, 5, 6] (ndB_ok _ rfl) rfl
      exact rtI F hP hD hS dX4_stays_49 (⟨_, _, congrArg (fun z => nI (cnS z)) (by rw [hrwS, rw_bad (by omega) (by omega) (lb_bad hsub c30)]), rfl⟩)

theorem inX4_judge_X4 : ∀ w ∈ u_ws RX4 TX4 10, w ∈ wsX4_judge := fun _ h => (List.mem_cons_of_mem _ (List.mem_append_left _ (List.mem_append_left _ (List.mem_append_right _ h))))
theorem lkX4_judge_1 : Cond.fieldLink RX4 10 "StripInFiveSteps" "now" "LStripInFiveSteps$Shed;" ∈ wsX4_judge := List.mem_of_getElem? (i := 1) rfl
theorem lkX4_judge_2 : Cond.fieldLink RX4 51 "StripInFiveSteps" "rowSize" "I" ∈ wsX4_judge := List.mem_of_getElem? (i := 2) rfl
theorem kX4_judge : Cal yX4_judge wsX4_judge cX4_judge 5 (some .int) 0 := ⟨⟨_, rfl⟩, by decide +kernel⟩
set_option maxHeartbeats 1000000 in
set_option maxRecDepth 100000 in
theorem c_X4_judge (l : Launch) (g : EE) (x0 : Nat) (h0 : Nat) (d0 : Nat) (k0 : Nat) (b0 : Nat) (a0 : Nat) (t0 : Nat) (r0 : Nat) (r1 : Nat) (ik : Nat) (rn : Nat) (h1 : Nat) (h2 : Nat) (W : Nat → Nat) (B : Nat → Nat) (sk : Nat) (ek : Nat) (tr : Nat) (b1 : Nat) (q : Nat → Nat) (n : Nat) (rw_ : Nat → Nat) (hW : ∀ j, W j ≤ 9) (hB : okB B) (hsk : sk ≤ 3) (hek : ek ≤ 4) (hrn : rn ≤ 12) (hrw : ∀ j, rw_ j ≤ 99) : CI l yX4_judge wsX4_judge ({ frames := 5, cells := 0, slots := 0, locals := 121 }) g [.ref x0] [(x0, .inr (4, [.ref h0, .ref d0, .ref k0, .int (nI ik), .ref b0, .ref a0, .ref t0, .ref r0, .int (nI rn), .ref r1])), (h0, .inr (0, [.ref h1, .ref h2, .int (nI sk), .int (nI ek), .int (nI tr)])), (h1, .inl (eI g, 41, .inl (fun j => nI (W j)))), (h2, .inl (eI g, 5, .inl (fun j => nI (B j)))), (b0, .inr (1, [.ref b1, .int (nI n)])), (b1, .inl (eI g, 7, .inl (fun j => nI (q j)))), (r0, .inl (eI g, 12, .inl (fun j => nI (rw_ j))))] (fun (rz : Int32) (wz : va_W) => ∃ q9 : Nat → Nat, ∃ n9 : Nat, rz = ((rwS (tlT B sk ek) rw_ rn 7 0 (lpB W)).2) ∧ wz = [(x0, .inr (4, [.ref h0, .ref d0, .ref k0, .int (nI ik), .ref b0, .ref a0, .ref t0, .ref r0, .int (nI 0), .ref r1])), (h0, .inr (0, [.ref h1, .ref h2, .int (nI sk), .int (nI ek), .int (nI tr)])), (h1, .inl (eI g, 41, .inl (fun j => nI (W j)))), (h2, .inl (eI g, 5, .inl (fun j => nI (B j)))), (b0, .inr (1, [.ref b1, .int (nI n9)])), (b1, .inl (eI g, 7, .inl (fun j => nI (q9 j)))), (r0, .inl (eI g, 12, .inl (fun j => nI (rw_ j))))]) 0 0 := by
  refine ctI (cc := cX4_judge) (maxL := 5) (ret := (some .int)) (by decide) rfl (Nat.le_of_ble_eq_true rfl) ?_
  intro p_ e_ s_ m_ bl_ mt_ cd_ A ls F hnm hP hD hS hl
  obtain ⟨hx, hb, hml, hown, hts, hK, hX, hA, hrt_, hlocks⟩ := id F
  have hl : lv_has ls 5 [(0, .ref x0)] := hl
  obtain ⟨hb0, hb1, hb2, hb3, hb4, hb5⟩ := okB_b hB
  refine lv_aload_n hx hb dX4_judge_0 rfl (lv_at hl 0 rfl) ?_
  refine xget F hP inX4_judge_X4 0 rfl rfl 0 (by decide) lkX4_judge_1 rfl dX4_judge_1 ?_
  refine cVL (As := []) (rest := []) F (c_X0_left l g h0 h1 h2 W B sk ek tr (hW)) kX0_left rfl gX4_judge_X0_left rfl rfl ⟨Nat.le_of_ble_eq_true rfl, Nat.le_of_ble_eq_true rfl⟩ hP hD hS [1, 2, 3] [0, 4, 5, 6] rfl rfl 0 rfl rfl hl.1 rfl rfl (Nat.le_of_ble_eq_true rfl) dX4_judge_4 ⟨Nat.le_of_ble_eq_true rfl, Nat.le_of_ble_eq_true rfl⟩ (fun rz w1 H locs hpo hP hD hS => ?_)
  obtain ⟨rfl, rfl⟩ := hpo
  obtain ⟨hP, hD⟩ := nx (ws' := [(x0, .inr (4, [.ref h0, .ref d0, .ref k0, .int (nI ik), .ref b0, .ref a0, .ref t0, .ref r0, .int (nI rn), .ref r1])), (h0, .inr (0, [.ref h1, .ref h2, .int (nI sk), .int (nI ek), .int (nI tr)])), (h1, .inl (eI g, 41, .inl (fun j => nI (W j)))), (h2, .inl (eI g, 5, .inl (fun j => nI (B j)))), (b0, .inr (1, [.ref b1, .int (nI n)])), (b1, .inl (eI g, 7, .inl (fun j => nI (q j)))), (r0, .inl (eI g, 12, .inl (fun j => nI (rw_ j))))]) hP hD [0, 4, 5, 6, 1, 2, 3] (ndB_ok _ rfl) rfl
  refine lv_lstore_n (lv' := [(1, .long (lfM W)), (0, .ref x0)]) hx hb dX4_judge_7 rfl hl (by decide) rfl (fun ls hl => ?_)
  refine lv_bipush (v := (-9)) hx hb dX4_judge_8 (by decide) ?_
  refine lv_istore_n (lv' := [(3, .int (-9)), (1, .long (lfM W)), (0, .ref x0)]) hx hb dX4_judge_10 rfl hl (by decide) rfl (fun ls hl => ?_)
  refine lv_iconst (v := (nI 0)) hx hb dX4_judge_11 (by decide) ?_
  refine lv_istore (lv' := [(4, .int (nI 0)), (3, .int (-9)), (1, .long (lfM W)), (0, .ref x0)]) hx hb dX4_judge_12 hl (by decide) rfl (fun ls hl => ?_)
  refine xlo (σ := Nat × Int64 × Int32 × (Nat → Nat) × Nat) 5 (fun xz_ => (fun (i : Nat) (x : Int64) (an : Int32) (qq : Nat → Nat) (nn : Nat) => [(0, .ref x0), (1, .long x), (3, .int an), (4, .int (nI i))]) xz_.1 xz_.2.1 xz_.2.2.1 xz_.2.2.2.1 xz_.2.2.2.2) (fun xz_ => (fun (i : Nat) (x : Int64) (an : Int32) (qq : Nat → Nat) (nn : Nat) => [(x0, .inr (4, [.ref h0, .ref d0, .ref k0, .int (nI ik), .ref b0, .ref a0, .ref t0, .ref r0, .int (nI rn), .ref r1])), (h0, .inr (0, [.ref h1, .ref h2, .int (nI sk), .int (nI ek), .int (nI tr)])), (h1, .inl (eI g, 41, .inl (fun j => nI (W j)))), (h2, .inl (eI g, 5, .inl (fun j => nI (B j)))), (b0, .inr (1, [.ref b1, .int (nI nn)])), (b1, .inl (eI g, 7, .inl (fun j => nI (qq j)))), (r0, .inl (eI g, 12, .inl (fun j => nI (rw_ j))))]) xz_.1 xz_.2.1 xz_.2.2.1 xz_.2.2.2.1 xz_.2.2.2.2) (fun xz_ => (fun (i : Nat) (x : Int64) (an : Int32) (qq : Nat → Nat) (nn : Nat) => ((an = -9 ∧ (∀ r, bitL x r = true → lpB W r = true) ∧ rwS (tlT B sk ek) rw_ rn 7 0 (lpB W) = rwS (tlT B sk ek) rw_ rn (7 - i / 2) i (bitL x)) ∨ (an ≠ -9 ∧ an = (rwS (tlT B sk ek) rw_ rn 7 0 (lpB W)).2)) ∧ i % 2 = 0 ∧ i ≤ rn + 1) xz_.1 xz_.2.1 xz_.2.2.1 xz_.2.2.2.1 xz_.2.2.2.2) (fun xz_ => (fun (i : Nat) (x : Int64) (an : Int32) (qq : Nat → Nat) (nn : Nat) => rn + 2 - i) xz_.1 xz_.2.1 xz_.2.2.1 xz_.2.2.2.1 xz_.2.2.2.2) (fun xz_ hI ih14 H locs ls hP hD hS hl => ?_) (0, lfM W, (-9), q, n) (show (((-9) = -9 ∧ (∀ r, bitL (lfM W) r = true → lpB W r = true) ∧ rwS (tlT B sk ek) rw_ rn 7 0 (lpB W) = rwS (tlT B sk ek) rw_ rn (7 - 0 / 2) 0 (bitL (lfM W))) ∨ ((-9) ≠ -9 ∧ (-9) = (rwS (tlT B sk ek) rw_ rn 7 0 (lpB W)).2)) ∧ 0 % 2 = 0 ∧ 0 ≤ rn + 1 from (⟨Or.inl ⟨rfl, sub_0 W, by rw [bitL_lfM]⟩, by omega, by omega⟩)) hP hD hS (lv_sub hl [3, 2, 1, 0] rfl)
  obtain ⟨i, x, an, qq, nn⟩ := xz_
  have hP : va_P (eD g) vwCl [(x0, .inr (4, [.ref h0, .ref d0, .ref k0, .int (nI ik), .ref b0, .ref a0, .ref t0, .ref r0, .int (nI rn), .ref r1])), (h0, .inr (0, [.ref h1, .ref h2, .int (nI sk), .int (nI ek), .int (nI tr)])), (h1, .inl (eI g, 41, .inl (fun j => nI (W j)))), (h2, .inl (eI g, 5, .inl (fun j => nI (B j)))), (b0, .inr (1, [.ref b1, .int (nI nn)])), (b1, .inl (eI g, 7, .inl (fun j => nI (qq j)))), (r0, .inl (eI g, 12, .inl (fun j => nI (rw_ j))))] H := hP
  have hD : va_D A [(x0, .inr (4, [.ref h0, .ref d0, .ref k0, .int (nI ik), .ref b0, .ref a0, .ref t0, .ref r0, .int (nI rn), .ref r1])), (h0, .inr (0, [.ref h1, .ref h2, .int (nI sk), .int (nI ek), .int (nI tr)])), (h1, .inl (eI g, 41, .inl (fun j => nI (W j)))), (h2, .inl (eI g, 5, .inl (fun j => nI (B j)))), (b0, .inr (1, [.ref b1, .int (nI nn)])), (b1, .inl (eI g, 7, .inl (fun j => nI (qq j)))), (r0, .inl (eI g, 12, .inl (fun j => nI (rw_ j))))] := hD
  have hl : lv_has ls 5 [(0, .ref x0), (1, .long x), (3, .int an), (4, .int (nI i))] := hl
  have hI14 : ((an = -9 ∧ (∀ r, bitL x r = true → lpB W r = true) ∧ rwS (tlT B sk ek) rw_ rn 7 0 (lpB W) = rwS (tlT B sk ek) rw_ rn (7 - i / 2) i (bitL x)) ∨ (an ≠ -9 ∧ an = (rwS (tlT B sk ek) rw_ rn 7 0 (lpB W)).2)) ∧ i % 2 = 0 ∧ i ≤ rn + 1 := hI
  clear hI
  obtain ⟨hd, hi2, hin⟩ := id hI14
  refine lv_iload hx hb dX4_judge_14 (lv_at hl 3 rfl) ?_
  refine lv_aload_n hx hb dX4_judge_16 rfl (lv_at hl 0 rfl) ?_
  refine xget F hP inX4_judge_X4 0 rfl rfl 8 (by decide) lkX4_judge_2 rfl dX4_judge_17 ?_
  refine xge (tgt := 54) hx hb dX4_judge_20 (by decide) (by omega) (by omega) (fun c20 => ?_) (fun c20 => ?_)
  · skip
    refine lv_aload_n hx hb dX4_judge_54 rfl (lv_at hl 0 rfl) ?_
    refine lv_iconst (v := (nI 0)) hx hb dX4_judge_55 (by decide) ?_
    refine xput F hP hD hS inX4_judge_X4 tyX4 tyX4_ok nmX4 0 rfl rfl 8 (by decide) lkX4_judge_2 rfl rfl rfl (Nat.le_of_ble_eq_true rfl) dX4_judge_56 (fun H locs hP hD hS => ?_)
    have hP : va_P (eD g) vwCl [(x0, .inr (4, [.ref h0, .ref d0, .ref k0, .int (nI ik), .ref b0, .ref a0, .ref t0, .ref r0, .int (nI 0), .ref r1])), (h0, .inr (0, [.ref h1, .ref h2, .int (nI sk), .int (nI ek), .int (nI tr)])), (h1, .inl (eI g, 41, .inl (fun j => nI (W j)))), (h2, .inl (eI g, 5, .inl (fun j => nI (B j)))), (b0, .inr (1, [.ref b1, .int (nI nn)])), (b1, .inl (eI g, 7, .inl (fun j => nI (qq j)))), (r0, .inl (eI g, 12, .inl (fun j => nI (rw_ j))))] H := hP
    have hD : va_D A [(x0, .inr (4, [.ref h0, .ref d0, .ref k0, .int (nI ik), .ref b0, .ref a0, .ref t0, .ref r0, .int (nI 0), .ref r1])), (h0, .inr (0, [.ref h1, .ref h2, .int (nI sk), .int (nI ek), .int (nI tr)])), (h1, .inl (eI g, 41, .inl (fun j => nI (W j)))), (h2, .inl (eI g, 5, .inl (fun j => nI (B j)))), (b0, .inr (1, [.ref b1, .int (nI nn)])), (b1, .inl (eI g, 7, .inl (fun j => nI (qq j)))), (r0, .inl (eI g, 12, .inl (fun j => nI (rw_ j))))] := hD
    refine lv_iload_n hx hb dX4_judge_59 rfl (lv_at hl 2 rfl) ?_
    exact rtI F hP hD hS dX4_judge_60 (⟨_, _, by rcases hd with ⟨h1, _, h3⟩ | ⟨_, h2⟩; exact (by rw [h1, h3, rw_end (by omega) (by omega)]); exact h2, rfl⟩)
  · skip
    refine lv_iload_n hx hb dX4_judge_23 rfl (lv_at hl 2 rfl) ?_
    refine lv_bipush (v := (-9)) hx hb dX4_judge_24 (by decide) ?_
    refine lv_icmp_ne (tgt := 54) hx hb dX4_judge_26 (by decide) (fun c26 => ?_) (fun c26 => ?_)
    · skip
      refine lv_aload_n hx hb dX4_judge_54 rfl (lv_at hl 0 rfl) ?_
      refine lv_iconst (v := (nI 0)) hx hb dX4_judge_55 (by decide) ?_
      refine xput F hP hD hS inX4_judge_X4 tyX4 tyX4_ok nmX4 0 rfl rfl 8 (by decide) lkX4_judge_2 rfl rfl rfl (Nat.le_of_ble_eq_true rfl) dX4_judge_56 (fun H locs hP hD hS => ?_)
      have hP : va_P (eD g) vwCl [(x0, .inr (4, [.ref h0, .ref d0, .ref k0, .int (nI ik), .ref b0, .ref a0, .ref t0, .ref r0, .int (nI 0), .ref r1])), (h0, .inr (0, [.ref h1, .ref h2, .int (nI sk), .int (nI ek), .int (nI tr)])), (h1, .inl (eI g, 41, .inl (fun j => nI (W j)))), (h2, .inl (eI g, 5, .inl (fun j => nI (B j)))), (b0, .inr (1, [.ref b1, .int (nI nn)])), (b1, .inl (eI g, 7, .inl (fun j => nI (qq j)))), (r0, .inl (eI g, 12, .inl (fun j => nI (rw_ j))))] H := hP
      have hD : va_D A [(x0, .inr (4, [.ref h0, .ref d0, .ref k0, .int (nI ik), .ref b0, .ref a0, .ref t0, .ref r0, .int (nI 0), .ref r1])), (h0, .inr (0, [.ref h1, .ref h2, .int (nI sk), .int (nI ek), .int (nI tr)])), (h1, .inl (eI g, 41, .inl (fun j => nI (W j)))), (h2, .inl (eI g, 5, .inl (fun j => nI (B j)))), (b0, .inr (1, [.ref b1, .int (nI nn)])), (b1, .inl (eI g, 7, .inl (fun j => nI (qq j)))), (r0, .inl (eI g, 12, .inl (fun j => nI (rw_ j))))] := hD
      refine lv_iload_n hx hb dX4_judge_59 rfl (lv_at hl 2 rfl) ?_
      exact rtI F hP hD hS dX4_judge_60 (⟨_, _, by rcases hd with ⟨h1, _, h3⟩ | ⟨_, h2⟩; exact (absurd h1 c26); exact h2, rfl⟩)
    · skip
      have hd1 := hd.resolve_right (fun q => q.1 c26)
      obtain ⟨han, hsub, hrwS⟩ := hd1
      subst han
      refine lv_aload_n hx hb dX4_judge_29 rfl (lv_at hl 0 rfl) ?_
      refine lv_iload hx hb dX4_judge_30 (lv_at hl 3 rfl) ?_
      refine lv_lload_n hx hb dX4_judge_32 rfl (lv_at hl 1 rfl) ?_
      refine cVL (As := [.int (nI i), .long x]) (rest := []) F (c_X4_leftBehindTwo l g x0 h0 d0 k0 b0 a0 t0 r0 r1 ik rn h1 h2 W B sk ek tr b1 qq nn rw_ i x (hW) (hB) (hsk) (hek) (hrn) (hrw) (by omega)) kX4_leftBehindTwo rfl gX4_judge_X4_leftBehindTwo rfl rfl ⟨Nat.le_of_ble_eq_true rfl, Nat.le_of_ble_eq_true rfl⟩ hP hD hS [0, 1, 2, 3, 4, 5, 6] [] rfl rfl 0 rfl rfl hl.1 rfl rfl (Nat.le_of_ble_eq_true rfl) dX4_judge_33 ⟨Nat.le_of_ble_eq_true rfl, Nat.le_of_ble_eq_true rfl⟩ (fun rz w1 H locs hpo hP hD hS => ?_)
      obtain ⟨q9_2, n9_2, rfl, rfl⟩ := hpo
      obtain ⟨hP, hD⟩ := nx (ws' := [(x0, .inr (4, [.ref h0, .ref d0, .ref k0, .int (nI ik), .ref b0, .ref a0, .ref t0, .ref r0, .int (nI rn), .ref r1])), (h0, .inr (0, [.ref h1, .ref h2, .int (nI sk), .int (nI ek), .int (nI tr)])), (h1, .inl (eI g, 41, .inl (fun j => nI (W j)))), (h2, .inl (eI g, 5, .inl (fun j => nI (B j)))), (b0, .inr (1, [.ref b1, .int (nI n9_2)])), (b1, .inl (eI g, 7, .inl (fun j => nI (q9_2 j)))), (r0, .inl (eI g, 12, .inl (fun j => nI (rw_ j))))]) hP hD [0, 1, 2, 3, 4, 5, 6] (ndB_ok _ rfl) rfl
      refine lv_lstore_n (lv' := [(1, .long (lbT W B sk ek rw_ rn i x)), (0, .ref x0), (3, .int (-9)), (4, .int (nI i))]) hx hb dX4_judge_36 rfl hl (by decide) rfl (fun ls hl => ?_)
      refine lv_lload_n hx hb dX4_judge_37 rfl (lv_at hl 0 rfl) ?_
      refine lv_lconst (v := lN 0) hx hb dX4_judge_38 rfl ?_
      refine jne (tgt := 48) hx hb dX4_judge_39 dX4_judge_40 (by decide) (fun c40 => ?_) (fun c40 => ?_)
      · skip
        refine lv_iinc (v := (nI (i + 2))) (lv' := [(4, .int (nI (i + 2))), (1, .long (lbT W B sk ek rw_ rn i x)), (0, .ref x0), (3, .int (-9))]) hx hb dX4_judge_48 hl (k := 3) rfl (iincP i 2) (by decide) rfl (fun ls hl => ?_)
        refine lv_goto (tgt := 14) hx hb dX4_judge_51 (by decide) ?_
        exact ih14 (i + 2, lbT W B sk ek rw_ rn i x, (-9), q9_2, n9_2) (show (((-9) = -9 ∧ (∀ r, bitL (lbT W B sk ek rw_ rn i x) r = true → lpB W r = true) ∧ rwS (tlT B sk ek) rw_ rn 7 0 (lpB W) = rwS (tlT B sk ek) rw_ rn (7 - (i + 2) / 2) (i + 2) (bitL (lbT W B sk ek rw_ rn i x))) ∨ ((-9) ≠ -9 ∧ (-9) = (rwS (tlT B sk ek) rw_ rn 7 0 (lpB W)).2)) ∧ (i + 2) % 2 = 0 ∧ (i + 2) ≤ rn + 1 from (⟨Or.inl ⟨rfl, lb_sub hsub c40, by rw [(lb_go hsub c40).2]; exact hrwS.trans (rw_go hi2 (by omega) (by omega) (lb_go hsub c40).1)⟩, by omega, by omega⟩)) (show rn + 2 - (i + 2) < rn + 2 - i from (by omega)) _ _ _ hP hD hS (lv_sub hl [2, 1, 3, 0] rfl)
      · skip
        refine lv_iload hx hb dX4_judge_43 (lv_at hl 3 rfl) ?_
        refine lv_iconst (v := (nI 2)) hx hb dX4_judge_45 (by decide) ?_
        refine xdiv hx hb (by omega) (by omega) (by omega) dX4_judge_46 ?_
        refine lv_istore_n (lv' := [(3, .int (nI (i / 2))), (1, .long (lbT W B sk ek rw_ rn i x)), (0, .ref x0), (4, .int (nI i))]) hx hb dX4_judge_47 rfl hl (by decide) rfl (fun ls hl => ?_)
        refine lv_iinc (v := (nI (i + 2))) (lv' := [(4, .int (nI (i + 2))), (3, .int (nI (i / 2))), (1, .long (lbT W B sk ek rw_ rn i x)), (0, .ref x0)]) hx hb dX4_judge_48 hl (k := 3) rfl (iincP i 2) (by decide) rfl (fun ls hl => ?_)
        refine lv_goto (tgt := 14) hx hb dX4_judge_51 (by decide) ?_
        exact ih14 (i + 2, lbT W B sk ek rw_ rn i x, (nI (i / 2)), q9_2, n9_2) (show (((nI (i / 2)) = -9 ∧ (∀ r, bitL (lbT W B sk ek rw_ rn i x) r = true → lpB W r = true) ∧ rwS (tlT B sk ek) rw_ rn 7 0 (lpB W) = rwS (tlT B sk ek) rw_ rn (7 - (i + 2) / 2) (i + 2) (bitL (lbT W B sk ek rw_ rn i x))) ∨ ((nI (i / 2)) ≠ -9 ∧ (nI (i / 2)) = (rwS (tlT B sk ek) rw_ rn 7 0 (lpB W)).2)) ∧ (i + 2) % 2 = 0 ∧ (i + 2) ≤ rn + 1 from (⟨Or.inr ⟨nI_neg9 (by omega), by rw [hrwS, rw_bad (by omega) (by omega) (lb_bad hsub c40)]⟩, by omega, by omega⟩)) (show rn + 2 - (i + 2) < rn + 2 - i from (by omega)) _ _ _ hP hD hS (lv_sub hl [3, 2, 1, 0] rfl)

theorem inX5_tryRow_X5 : ∀ w ∈ u_ws RX5 TX5 20, w ∈ wsX5_tryRow := fun _ h => (List.mem_cons_of_mem _ (List.mem_append_right _ h))
theorem lkX5_tryRow_1 : Cond.fieldLink RX5 19 "StripInFiveStepsModel" "now" "[I" ∈ wsX5_tryRow := List.mem_of_getElem? (i := 1) rfl
theorem lkX5_tryRow_2 : Cond.fieldLink RX5 34 "StripInFiveStepsModel" "mind" "[I" ∈ wsX5_tryRow := List.mem_of_getElem? (i := 2) rfl
theorem lkX5_tryRow_3 : Cond.fieldLink RX5 170 "StripInFiveStepsModel" "lined" "I" ∈ wsX5_tryRow := List.mem_of_getElem? (i := 3) rfl
theorem lkX5_tryRow_4 : Cond.fieldLink RX5 37 "StripInFiveStepsModel" "line" "[I" ∈ wsX5_tryRow := List.mem_of_getElem? (i := 4) rfl
theorem kX5_tryRow : Cal yX5_tryRow wsX5_tryRow cX5_tryRow 2 (some .int) 0 := ⟨⟨_, rfl⟩, by decide +kernel⟩
set_option maxHeartbeats 1000000 in
set_option maxRecDepth 100000 in
theorem c_X5_tryRow (l : Launch) (g : EE) (m0 : Nat) (m1 : Nat) (m2 : Nat) (m3 : Nat) (m4 : Nat) (m5 : Nat) (m6 : Nat) (m7 : Nat) (m8 : Nat) (m9 : Nat) (m10 : Nat) (m11 : Nat) (m12 : Nat) (m13 : Nat) (m14 : Nat) (kp : Nat) (rn : Nat) (tn : Nat) (ia : Nat) (wl : Nat) (si : Nat) (S : Nat → Nat) (O : Nat → Int32) (Y : Nat → Nat) (Z : Nat → Nat) (M : Nat → Nat) (rw_ : Nat → Nat) (hO : okS S) (hrn : rn ≤ 12) (hrw : ∀ j, rw_ j ≤ 99) : CI l yX5_tryRow wsX5_tryRow ({ frames := 6, cells := 0, slots := 0, locals := 137 }) g [.ref m0] [(m0, .inr (5, [.ref m1, .ref m2, .ref m3, .int (nI kp), .ref m4, .ref m5, .ref m6, .ref m7, .ref m8, .int (nI rn), .ref m9, .int (nI tn), .int (nI ia), .int (nI wl), .ref m10, .ref m11, .ref m12, .int (nI si), .ref m13, .ref m14])), (m2, .inl (eI g, 49, .inl (fun j => nI (S j)))), (m4, .inl (eI g, 41, .inl O)), (m5, .inl (eI g, 9, .inl (fun j => nI (Y j)))), (m6, .inl (eI g, 9, .inl (fun j => nI (Z j)))), (m7, .inl (eI g, 49, .inl (fun j => nI (M j)))), (m8, .inl (eI g, 12, .inl (fun j => nI (rw_ j))))] (fun (rz : Int32) (wz : va_W) => ∃ O9 : Nat → Int32, ∃ Y9 : Nat → Nat, ∃ Z9 : Nat → Nat, ∃ M9 : Nat → Nat, rz = ((rwS (tlS S) rw_ rn 7 0 (lpB S)).2) ∧ wz = [(m0, .inr (5, [.ref m1, .ref m2, .ref m3, .int (nI kp), .ref m4, .ref m5, .ref m6, .ref m7, .ref m8, .int (nI rn), .ref m9, .int (nI tn), .int (nI ia), .int (nI wl), .ref m10, .ref m11, .ref m12, .int (nI si), .ref m13, .ref m14])), (m2, .inl (eI g, 49, .inl (fun j => nI (S j)))), (m4, .inl (eI g, 41, .inl O9)), (m5, .inl (eI g, 9, .inl (fun j => nI (Y9 j)))), (m6, .inl (eI g, 9, .inl (fun j => nI (Z9 j)))), (m7, .inl (eI g, 49, .inl (fun j => nI (M9 j)))), (m8, .inl (eI g, 12, .inl (fun j => nI (rw_ j))))] ∧ lpB M9 = (rwS (tlS S) rw_ rn 7 0 (lpB S)).1 ∧ ∀ j, j ≤ 40 → M9 j ≤ 9) 0 0 := by
  refine ctI (cc := cX5_tryRow) (maxL := 2) (ret := (some .int)) (by decide) rfl (Nat.le_of_ble_eq_true rfl) ?_
  intro p_ e_ s_ m_ bl_ mt_ cd_ A ls F hnm hP hD hS hl
  obtain ⟨hx, hb, hml, hown, hts, hK, hX, hA, hrt_, hlocks⟩ := id F
  have hl : lv_has ls 2 [(0, .ref m0)] := hl
  obtain ⟨hw40, ⟨h41a, h41b⟩, ⟨h42a, h42b⟩, h43, h44, h45, h46, h47, h48⟩ := id hO
  refine lv_aload_n hx hb dX5_tryRow_0 rfl (lv_at hl 0 rfl) ?_
  refine xget F hP inX5_tryRow_X5 0 rfl rfl 1 (by decide) lkX5_tryRow_1 rfl dX5_tryRow_1 ?_
  refine lv_aload_n hx hb dX5_tryRow_4 rfl (lv_at hl 0 rfl) ?_
  refine xget F hP inX5_tryRow_X5 0 rfl rfl 7 (by decide) lkX5_tryRow_2 rfl dX5_tryRow_5 ?_
  refine cSV (As := [.ref m2, .ref m7]) (rest := []) F (c_X5_move l g m2 m7 S M ) kX5_move gX5_tryRow_X5_move rfl rfl ⟨Nat.le_of_ble_eq_true rfl, Nat.le_of_ble_eq_true rfl⟩ hP hD hS [1, 5] [0, 2, 3, 4, 6] rfl rfl hl.1 rfl rfl (Nat.le_of_ble_eq_true rfl) dX5_tryRow_8 ⟨Nat.le_of_ble_eq_true rfl, Nat.le_of_ble_eq_true rfl⟩ (fun w1 H locs hpo hP hD hS => ?_)
  subst hpo
  obtain ⟨hP, hD⟩ := nx (ws' := [(m0, .inr (5, [.ref m1, .ref m2, .ref m3, .int (nI kp), .ref m4, .ref m5, .ref m6, .ref m7, .ref m8, .int (nI rn), .ref m9, .int (nI tn), .int (nI ia), .int (nI wl), .ref m10, .ref m11, .ref m12, .int (nI si), .ref m13, .ref m14])), (m2, .inl (eI g, 49, .inl (fun j => nI (S j)))), (m4, .inl (eI g, 41, .inl O)), (m5, .inl (eI g, 9, .inl (fun j => nI (Y j)))), (m6, .inl (eI g, 9, .inl (fun j => nI (Z j)))), (m7, .inl (eI g, 49, .inl (fun j => nI (S j)))), (m8, .inl (eI g, 12, .inl (fun j => nI (rw_ j))))]) hP hD [0, 5, 1, 2, 3, 6, 4] (ndB_ok _ rfl) rfl
  refine lv_iconst (v := (nI 0)) hx hb dX5_tryRow_11 (by decide) ?_
  refine lv_istore_n (lv' := [(1, .int (nI 0)), (0, .ref m0)]) hx hb dX5_tryRow_12 rfl hl (by decide) rfl (fun ls hl => ?_)
  refine xlo (σ := Nat × (Nat → Int32) × (Nat → Nat) × (Nat → Nat) × (Nat → Nat)) 2 (fun xz_ => (fun (k : Nat) (o : Nat → Int32) (y2 : Nat → Nat) (z2 : Nat → Nat) (V : Nat → Nat) => [(0, .ref m0), (1, .int (nI k))]) xz_.1 xz_.2.1 xz_.2.2.1 xz_.2.2.2.1 xz_.2.2.2.2) (fun xz_ => (fun (k : Nat) (o : Nat → Int32) (y2 : Nat → Nat) (z2 : Nat → Nat) (V : Nat → Nat) => [(m0, .inr (5, [.ref m1, .ref m2, .ref m3, .int (nI kp), .ref m4, .ref m5, .ref m6, .ref m7, .ref m8, .int (nI rn), .ref m9, .int (nI tn), .int (nI ia), .int (nI wl), .ref m10, .ref m11, .ref m12, .int (nI si), .ref m13, .ref m14])), (m2, .inl (eI g, 49, .inl (fun j => nI (S j)))), (m4, .inl (eI g, 41, .inl o)), (m5, .inl (eI g, 9, .inl (fun j => nI (y2 j)))), (m6, .inl (eI g, 9, .inl (fun j => nI (z2 j)))), (m7, .inl (eI g, 49, .inl (fun j => nI (V j)))), (m8, .inl (eI g, 12, .inl (fun j => nI (rw_ j))))]) xz_.1 xz_.2.1 xz_.2.2.1 xz_.2.2.2.1 xz_.2.2.2.2) (fun xz_ => (fun (k : Nat) (o : Nat → Int32) (y2 : Nat → Nat) (z2 : Nat → Nat) (V : Nat → Nat) => (∀ j, j ≤ 40 → V j ≤ 9) ∧ rwS (tlS S) rw_ rn 7 0 (lpB S) = rwS (tlS S) rw_ rn (7 - k / 2) k (lpB V) ∧ k % 2 = 0 ∧ k ≤ rn + 1) xz_.1 xz_.2.1 xz_.2.2.1 xz_.2.2.2.1 xz_.2.2.2.2) (fun xz_ => (fun (k : Nat) (o : Nat → Int32) (y2 : Nat → Nat) (z2 : Nat → Nat) (V : Nat → Nat) => rn + 2 - k) xz_.1 xz_.2.1 xz_.2.2.1 xz_.2.2.2.1 xz_.2.2.2.2) (fun xz_ hI ih13 H locs ls hP hD hS hl => ?_) (0, O, Y, Z, S) (show (∀ j, j ≤ 40 → S j ≤ 9) ∧ rwS (tlS S) rw_ rn 7 0 (lpB S) = rwS (tlS S) rw_ rn (7 - 0 / 2) 0 (lpB S) ∧ 0 % 2 = 0 ∧ 0 ≤ rn + 1 from (⟨hO.1, rfl, by omega, by omega⟩)) hP hD hS (lv_sub hl [1, 0] rfl)
  obtain ⟨k, o, y2, z2, V⟩ := xz_
  have hP : va_P (eD g) vwCl [(m0, .inr (5, [.ref m1, .ref m2, .ref m3, .int (nI kp), .ref m4, .ref m5, .ref m6, .ref m7, .ref m8, .int (nI rn), .ref m9, .int (nI tn), .int (nI ia), .int (nI wl), .ref m10, .ref m11, .ref m12, .int (nI si), .ref m13, .ref m14])), (m2, .inl (eI g, 49, .inl (fun j => nI (S j)))), (m4, .inl (eI g, 41, .inl o)), (m5, .inl (eI g, 9, .inl (fun j => nI (y2 j)))), (m6, .inl (eI g, 9, .inl (fun j => nI (z2 j)))), (m7, .inl (eI g, 49, .inl (fun j => nI (V j)))), (m8, .inl (eI g, 12, .inl (fun j => nI (rw_ j))))] H := hP
  have hD : va_D A [(m0, .inr (5, [.ref m1, .ref m2, .ref m3, .int (nI kp), .ref m4, .ref m5, .ref m6, .ref m7, .ref m8, .int (nI rn), .ref m9, .int (nI tn), .int (nI ia), .int (nI wl), .ref m10, .ref m11, .ref m12, .int (nI si), .ref m13, .ref m14])), (m2, .inl (eI g, 49, .inl (fun j => nI (S j)))), (m4, .inl (eI g, 41, .inl o)), (m5, .inl (eI g, 9, .inl (fun j => nI (y2 j)))), (m6, .inl (eI g, 9, .inl (fun j => nI (z2 j)))), (m7, .inl (eI g, 49, .inl (fun j => nI (V j)))), (m8, .inl (eI g, 12, .inl (fun j => nI (rw_ j))))] := hD
  have hl : lv_has ls 2 [(0, .ref m0), (1, .int (nI k))] := hl
  have hI13 : (∀ j, j ≤ 40 → V j ≤ 9) ∧ rwS (tlS S) rw_ rn 7 0 (lpB S) = rwS (tlS S) rw_ rn (7 - k / 2) k (lpB V) ∧ k % 2 = 0 ∧ k ≤ rn + 1 := hI
  clear hI
  obtain ⟨hV9, hrwS, hk2, hkn⟩ := id hI13
  refine lv_iload_n hx hb dX5_tryRow_13 rfl (lv_at hl 1 rfl) ?_
  refine lv_aload_n hx hb dX5_tryRow_14 rfl (lv_at hl 0 rfl) ?_
  refine xget F hP inX5_tryRow_X5 0 rfl rfl 9 (by decide) lkX5_tryRow_3 rfl dX5_tryRow_15 ?_
  refine xge (tgt := 93) hx hb dX5_tryRow_18 (by decide) (by omega) (by omega) (fun c18 => ?_) (fun c18 => ?_)
  · skip
    refine lv_bipush (v := (-9)) hx hb dX5_tryRow_93 (by decide) ?_
    exact rtI F hP hD hS dX5_tryRow_95 (⟨_, _, _, _, by rw [hrwS, rw_end (by omega) (by omega)], rfl, by rw [hrwS, rw_end (by omega) (by omega)], hV9⟩)
  · skip
    refine lv_iload_n hx hb dX5_tryRow_21 rfl (lv_at hl 1 rfl) ?_
    refine lv_iconst (v := (nI 1)) hx hb dX5_tryRow_22 (by decide) ?_
    refine xadd hx hb dX5_tryRow_23 ?_
    refine lv_aload_n hx hb dX5_tryRow_24 rfl (lv_at hl 0 rfl) ?_
    refine xget F hP inX5_tryRow_X5 0 rfl rfl 9 (by decide) lkX5_tryRow_3 rfl dX5_tryRow_25 ?_
    refine xeq (tgt := 83) hx hb dX5_tryRow_28 (by decide) (by omega) (by omega) (fun c28 => ?_) (fun c28 => ?_)
    · skip
      refine lv_iload_n hx hb dX5_tryRow_83 rfl (lv_at hl 1 rfl) ?_
      refine lv_iconst (v := (nI 2)) hx hb dX5_tryRow_84 (by decide) ?_
      refine xdiv hx hb (by omega) (by omega) (by omega) dX5_tryRow_85 ?_
      exact rtI F hP hD hS dX5_tryRow_86 (⟨_, _, _, _, by rw [hrwS, rw_bad (by omega) (by omega) (fun q => by omega)], rfl, by rw [hrwS, rw_bad (by omega) (by omega) (fun q => by omega)], hV9⟩)
    · skip
      refine lv_aload_n hx hb dX5_tryRow_31 rfl (lv_at hl 0 rfl) ?_
      refine xget F hP inX5_tryRow_X5 0 rfl rfl 8 (by decide) lkX5_tryRow_4 rfl dX5_tryRow_32 ?_
      refine lv_iload_n hx hb dX5_tryRow_35 rfl (lv_at hl 1 rfl) ?_
      refine xald F hP 6 (v := (nI (rw_ k))) rfl (by omega) (by omega) rfl dX5_tryRow_36 ?_
      have hbd2 := hrw (k)
      refine cSI (As := [.int (nI (rw_ k))]) (rest := []) F (n_X5_isNoSecond l g (rw_ k) (by omega)) kX5_isNoSecond gX5_tryRow_X5_isNoSecond rfl rfl ⟨Nat.le_of_ble_eq_true rfl, Nat.le_of_ble_eq_true rfl⟩ hP hD hS [] [0, 1, 2, 3, 4, 5, 6] rfl rfl hl.1 rfl rfl (Nat.le_of_ble_eq_true rfl) dX5_tryRow_37 ⟨Nat.le_of_ble_eq_true rfl, Nat.le_of_ble_eq_true rfl⟩ (fun rz w1 H locs hpo hP hD hS => ?_)
      obtain ⟨rfl, rfl⟩ := hpo
      obtain ⟨hP, hD⟩ := nx (ws' := [(m0, .inr (5, [.ref m1, .ref m2, .ref m3, .int (nI kp), .ref m4, .ref m5, .ref m6, .ref m7, .ref m8, .int (nI rn), .ref m9, .int (nI tn), .int (nI ia), .int (nI wl), .ref m10, .ref m11, .ref m12, .int (nI si), .ref m13, .ref m14])), (m2, .inl (eI g, 49, .inl (fun j => nI (S j)))), (m4, .inl (eI g, 41, .inl o)), (m5, .inl (eI g, 9, .inl (fun j => nI (y2 j)))), (m6, .inl (eI g, 9, .inl (fun j => nI (z2 j)))), (m7, .inl (eI g, 49, .inl (fun j => nI (V j)))), (m8, .inl (eI g, 12, .inl (fun j => nI (rw_ j))))]) hP hD [0, 1, 2, 3, 4, 5, 6] (ndB_ok _ rfl) rfl
      refine bqne (tgt := 83) hx hb dX5_tryRow_40 (by decide) (fun c40 => ?_) (fun c40 => ?_)
      · skip
        refine lv_iload_n hx hb dX5_tryRow_83 rfl (lv_at hl 1 rfl) ?_
        refine lv_iconst (v := (nI 2)) hx hb dX5_tryRow_84 (by decide) ?_
        refine xdiv hx hb (by omega) (by omega) (by omega) dX5_tryRow_85 ?_
        exact rtI F hP hD hS dX5_tryRow_86 (⟨_, _, _, _, by rw [hrwS, rw_bad (by omega) (by omega) (fun q => by omega)], rfl, by rw [hrwS, rw_bad (by omega) (by omega) (fun q => by omega)], hV9⟩)
      · skip
        refine lv_aload_n hx hb dX5_tryRow_43 rfl (lv_at hl 0 rfl) ?_
        refine lv_aload_n hx hb dX5_tryRow_44 rfl (lv_at hl 0 rfl) ?_
        refine xget F hP inX5_tryRow_X5 0 rfl rfl 8 (by decide) lkX5_tryRow_4 rfl dX5_tryRow_45 ?_
        refine lv_iload_n hx hb dX5_tryRow_48 rfl (lv_at hl 1 rfl) ?_
        refine lv_iconst (v := (nI 1)) hx hb dX5_tryRow_49 (by decide) ?_
        refine xadd hx hb dX5_tryRow_50 ?_
        refine xald F hP 6 (v := (nI (rw_ (k + 1)))) rfl (by omega) (by omega) rfl dX5_tryRow_51 ?_
        have hbd4 := hrw (k + 1)
        refine cVI (As := [.int (nI (rw_ (k + 1)))]) (rest := []) F (n_X5_isNoBand l g m0 m1 m2 m3 m4 m5 m6 m7 m8 m9 m10 m11 m12 m13 m14 kp rn tn ia wl si S (rw_ (k + 1)) (hO) (by omega)) kX5_isNoBand rfl gX5_tryRow_X5_isNoBand rfl rfl ⟨Nat.le_of_ble_eq_true rfl, Nat.le_of_ble_eq_true rfl⟩ hP hD hS [0, 1] [2, 3, 4, 5, 6] rfl rfl 0 rfl rfl hl.1 rfl rfl (Nat.le_of_ble_eq_true rfl) dX5_tryRow_52 ⟨Nat.le_of_ble_eq_true rfl, Nat.le_of_ble_eq_true rfl⟩ (fun rz w1 H locs hpo hP hD hS => ?_)
        obtain ⟨rfl, rfl⟩ := hpo
        obtain ⟨hP, hD⟩ := nx (ws' := [(m0, .inr (5, [.ref m1, .ref m2, .ref m3, .int (nI kp), .ref m4, .ref m5, .ref m6, .ref m7, .ref m8, .int (nI rn), .ref m9, .int (nI tn), .int (nI ia), .int (nI wl), .ref m10, .ref m11, .ref m12, .int (nI si), .ref m13, .ref m14])), (m2, .inl (eI g, 49, .inl (fun j => nI (S j)))), (m4, .inl (eI g, 41, .inl o)), (m5, .inl (eI g, 9, .inl (fun j => nI (y2 j)))), (m6, .inl (eI g, 9, .inl (fun j => nI (z2 j)))), (m7, .inl (eI g, 49, .inl (fun j => nI (V j)))), (m8, .inl (eI g, 12, .inl (fun j => nI (rw_ j))))]) hP hD [5, 6, 0, 1, 2, 3, 4] (ndB_ok _ rfl) rfl
        refine bqne (tgt := 83) hx hb dX5_tryRow_55 (by decide) (fun c55 => ?_) (fun c55 => ?_)
        · skip
          refine lv_iload_n hx hb dX5_tryRow_83 rfl (lv_at hl 1 rfl) ?_
          refine lv_iconst (v := (nI 2)) hx hb dX5_tryRow_84 (by decide) ?_
          refine xdiv hx hb (by omega) (by omega) (by omega) dX5_tryRow_85 ?_
          exact rtI F hP hD hS dX5_tryRow_86 (⟨_, _, _, _, by rw [hrwS, rw_bad (by omega) (by omega) (fun q => q.2 (nb0 (by omega) c55))], rfl, by rw [hrwS, rw_bad (by omega) (by omega) (fun q => q.2 (nb0 (by omega) c55))], hV9⟩)
        · skip
          refine lv_aload_n hx hb dX5_tryRow_58 rfl (lv_at hl 0 rfl) ?_
          refine lv_aload_n hx hb dX5_tryRow_59 rfl (lv_at hl 0 rfl) ?_
          refine xget F hP inX5_tryRow_X5 0 rfl rfl 7 (by decide) lkX5_tryRow_2 rfl dX5_tryRow_60 ?_
          refine lv_aload_n hx hb dX5_tryRow_63 rfl (lv_at hl 0 rfl) ?_
          refine xget F hP inX5_tryRow_X5 0 rfl rfl 8 (by decide) lkX5_tryRow_4 rfl dX5_tryRow_64 ?_
          refine lv_iload_n hx hb dX5_tryRow_67 rfl (lv_at hl 1 rfl) ?_
          refine xald F hP 6 (v := (nI (rw_ k))) rfl (by omega) (by omega) rfl dX5_tryRow_68 ?_
          have hbd6 := hrw (k)
          refine lv_aload_n hx hb dX5_tryRow_69 rfl (lv_at hl 0 rfl) ?_
          refine xget F hP inX5_tryRow_X5 0 rfl rfl 8 (by decide) lkX5_tryRow_4 rfl dX5_tryRow_70 ?_
          refine lv_iload_n hx hb dX5_tryRow_73 rfl (lv_at hl 1 rfl) ?_
          refine lv_iconst (v := (nI 1)) hx hb dX5_tryRow_74 (by decide) ?_
          refine xadd hx hb dX5_tryRow_75 ?_
          refine xald F hP 6 (v := (nI (rw_ (k + 1)))) rfl (by omega) (by omega) rfl dX5_tryRow_76 ?_
          have hbd7 := hrw (k + 1)
          refine cVI (As := [.ref m7, .int (nI (rw_ k)), .int (nI (rw_ (k + 1)))]) (rest := []) F (mc_X5_tries l g m0 m1 m2 m3 m4 m5 m6 m7 m8 m9 m10 m11 m12 m13 m14 kp rn tn ia wl si S o y2 z2 V (rw_ k) (rw_ (k + 1)) (hO) (hV9) (by omega) (by omega)) kX5_tries rfl gX5_tryRow_X5_tries rfl rfl ⟨Nat.le_of_ble_eq_true rfl, Nat.le_of_ble_eq_true rfl⟩ hP hD hS [0, 1, 2, 3, 4, 5] [6] rfl rfl 0 rfl rfl hl.1 rfl rfl (Nat.le_of_ble_eq_true rfl) dX5_tryRow_77 ⟨Nat.le_of_ble_eq_true rfl, Nat.le_of_ble_eq_true rfl⟩ (fun rz w1 H locs hpo hP hD hS => ?_)
          obtain ⟨O9_8, Y9_8, Z9_8, rfl, rfl⟩ := hpo
          obtain ⟨hP, hD⟩ := nx (ws' := [(m0, .inr (5, [.ref m1, .ref m2, .ref m3, .int (nI kp), .ref m4, .ref m5, .ref m6, .ref m7, .ref m8, .int (nI rn), .ref m9, .int (nI tn), .int (nI ia), .int (nI wl), .ref m10, .ref m11, .ref m12, .int (nI si), .ref m13, .ref m14])), (m2, .inl (eI g, 49, .inl (fun j => nI (S j)))), (m4, .inl (eI g, 41, .inl O9_8)), (m5, .inl (eI g, 9, .inl (fun j => nI (Y9_8 j)))), (m6, .inl (eI g, 9, .inl (fun j => nI (Z9_8 j)))), (m7, .inl (eI g, 49, .inl (fun j => nI ((if cnS (prt (tlS S) (lpB V) (rw_ k) (rw_ (k + 1))) ≠ 0 then cutN V (prt (tlS S) (lpB V) (rw_ k) (rw_ (k + 1))) 40 else V) j)))), (m8, .inl (eI g, 12, .inl (fun j => nI (rw_ j))))]) hP hD [1, 2, 3, 4, 5, 6, 0] (ndB_ok _ rfl) rfl
          refine bqne (tgt := 87) hx hb dX5_tryRow_80 (by decide) (fun c80 => ?_) (fun c80 => ?_)
          · skip
            rw [if_pos c80] at hP hD
            have hP : va_P (eD g) vwCl [(m0, .inr (5, [.ref m1, .ref m2, .ref m3, .int (nI kp), .ref m4, .ref m5, .ref m6, .ref m7, .ref m8, .int (nI rn), .ref m9, .int (nI tn), .int (nI ia), .int (nI wl), .ref m10, .ref m11, .ref m12, .int (nI si), .ref m13, .ref m14])), (m2, .inl (eI g, 49, .inl (fun j => nI (S j)))), (m4, .inl (eI g, 41, .inl O9_8)), (m5, .inl (eI g, 9, .inl (fun j => nI (Y9_8 j)))), (m6, .inl (eI g, 9, .inl (fun j => nI (Z9_8 j)))), (m7, .inl (eI g, 49, .inl (fun j => nI ((cutN V (prt (tlS S) (lpB V) (rw_ k) (rw_ (k + 1))) 40) j)))), (m8, .inl (eI g, 12, .inl (fun j => nI (rw_ j))))] H := hP
            have hD : va_D A [(m0, .inr (5, [.ref m1, .ref m2, .ref m3, .int (nI kp), .ref m4, .ref m5, .ref m6, .ref m7, .ref m8, .int (nI rn), .ref m9, .int (nI tn), .int (nI ia), .int (nI wl), .ref m10, .ref m11, .ref m12, .int (nI si), .ref m13, .ref m14])), (m2, .inl (eI g, 49, .inl (fun j => nI (S j)))), (m4, .inl (eI g, 41, .inl O9_8)), (m5, .inl (eI g, 9, .inl (fun j => nI (Y9_8 j)))), (m6, .inl (eI g, 9, .inl (fun j => nI (Z9_8 j)))), (m7, .inl (eI g, 49, .inl (fun j => nI ((cutN V (prt (tlS S) (lpB V) (rw_ k) (rw_ (k + 1))) 40) j)))), (m8, .inl (eI g, 12, .inl (fun j => nI (rw_ j))))] := hD
            refine lv_iinc (v := (nI (k + 2))) (lv' := [(1, .int (nI (k + 2))), (0, .ref m0)]) hx hb dX5_tryRow_87 hl (k := 1) rfl (iincP k 2) (by decide) rfl (fun ls hl => ?_)
            refine lv_goto (tgt := 13) hx hb dX5_tryRow_90 (by decide) ?_
            exact ih13 (k + 2, O9_8, Y9_8, Z9_8, (cutN V (prt (tlS S) (lpB V) (rw_ k) (rw_ (k + 1))) 40)) (show (∀ j, j ≤ 40 → (cutN V (prt (tlS S) (lpB V) (rw_ k) (rw_ (k + 1))) 40) j ≤ 9) ∧ rwS (tlS S) rw_ rn 7 0 (lpB S) = rwS (tlS S) rw_ rn (7 - (k + 2) / 2) (k + 2) (lpB (cutN V (prt (tlS S) (lpB V) (rw_ k) (rw_ (k + 1))) 40)) ∧ (k + 2) % 2 = 0 ∧ (k + 2) ≤ rn + 1 from (⟨cutN_le hV9, by rw [lpB_prt]; exact hrwS.trans (rw_go hk2 (by omega) (by omega) ⟨by omega, c80⟩), by omega, by omega⟩)) (show rn + 2 - (k + 2) < rn + 2 - k from (by omega)) _ _ _ hP hD hS (lv_sub hl [1, 0] rfl)
          · skip
            rw [if_neg c80] at hP hD
            have hP : va_P (eD g) vwCl [(m0, .inr (5, [.ref m1, .ref m2, .ref m3, .int (nI kp), .ref m4, .ref m5, .ref m6, .ref m7, .ref m8, .int (nI rn), .ref m9, .int (nI tn), .int (nI ia), .int (nI wl), .ref m10, .ref m11, .ref m12, .int (nI si), .ref m13, .ref m14])), (m2, .inl (eI g, 49, .inl (fun j => nI (S j)))), (m4, .inl (eI g, 41, .inl O9_8)), (m5, .inl (eI g, 9, .inl (fun j => nI (Y9_8 j)))), (m6, .inl (eI g, 9, .inl (fun j => nI (Z9_8 j)))), (m7, .inl (eI g, 49, .inl (fun j => nI (V j)))), (m8, .inl (eI g, 12, .inl (fun j => nI (rw_ j))))] H := hP
            have hD : va_D A [(m0, .inr (5, [.ref m1, .ref m2, .ref m3, .int (nI kp), .ref m4, .ref m5, .ref m6, .ref m7, .ref m8, .int (nI rn), .ref m9, .int (nI tn), .int (nI ia), .int (nI wl), .ref m10, .ref m11, .ref m12, .int (nI si), .ref m13, .ref m14])), (m2, .inl (eI g, 49, .inl (fun j => nI (S j)))), (m4, .inl (eI g, 41, .inl O9_8)), (m5, .inl (eI g, 9, .inl (fun j => nI (Y9_8 j)))), (m6, .inl (eI g, 9, .inl (fun j => nI (Z9_8 j)))), (m7, .inl (eI g, 49, .inl (fun j => nI (V j)))), (m8, .inl (eI g, 12, .inl (fun j => nI (rw_ j))))] := hD
            refine lv_iload_n hx hb dX5_tryRow_83 rfl (lv_at hl 1 rfl) ?_
            refine lv_iconst (v := (nI 2)) hx hb dX5_tryRow_84 (by decide) ?_
            refine xdiv hx hb (by omega) (by omega) (by omega) dX5_tryRow_85 ?_
            exact rtI F hP hD hS dX5_tryRow_86 (⟨_, _, _, _, by rw [hrwS, rw_bad (by omega) (by omega) (fun q => c80 q.2)], rfl, by rw [hrwS, rw_bad (by omega) (by omega) (fun q => c80 q.2)], hV9⟩)

theorem inX5_stays_X5 : ∀ w ∈ u_ws RX5 TX5 20, w ∈ wsX5_stays := fun _ h => (List.mem_cons_of_mem _ (List.mem_append_right _ h))
theorem lkX5_stays_1 : Cond.fieldLink RX5 34 "StripInFiveStepsModel" "mind" "[I" ∈ wsX5_stays := List.mem_of_getElem? (i := 1) rfl
theorem kX5_stays : Cal yX5_stays wsX5_stays cX5_stays 1 (some .int) 0 := ⟨⟨_, rfl⟩, by decide +kernel⟩
set_option maxHeartbeats 1000000 in
set_option maxRecDepth 100000 in
theorem c_X5_stays (l : Launch) (g : EE) (m0 : Nat) (m1 : Nat) (m2 : Nat) (m3 : Nat) (m4 : Nat) (m5 : Nat) (m6 : Nat) (m7 : Nat) (m8 : Nat) (m9 : Nat) (m10 : Nat) (m11 : Nat) (m12 : Nat) (m13 : Nat) (m14 : Nat) (kp : Nat) (rn : Nat) (tn : Nat) (ia : Nat) (wl : Nat) (si : Nat) (S : Nat → Nat) (O : Nat → Int32) (Y : Nat → Nat) (Z : Nat → Nat) (M : Nat → Nat) (rw_ : Nat → Nat) (hO : okS S) (hrn : rn ≤ 12) (hrw : ∀ j, rw_ j ≤ 99) : CI l yX5_stays wsX5_stays ({ frames := 7, cells := 0, slots := 0, locals := 158 }) g [.ref m0] [(m0, .inr (5, [.ref m1, .ref m2, .ref m3, .int (nI kp), .ref m4, .ref m5, .ref m6, .ref m7, .ref m8, .int (nI rn), .ref m9, .int (nI tn), .int (nI ia), .int (nI wl), .ref m10, .ref m11, .ref m12, .int (nI si), .ref m13, .ref m14])), (m2, .inl (eI g, 49, .inl (fun j => nI (S j)))), (m4, .inl (eI g, 41, .inl O)), (m5, .inl (eI g, 9, .inl (fun j => nI (Y j)))), (m6, .inl (eI g, 9, .inl (fun j => nI (Z j)))), (m7, .inl (eI g, 49, .inl (fun j => nI (M j)))), (m8, .inl (eI g, 12, .inl (fun j => nI (rw_ j))))] (fun (rz : Int32) (wz : va_W) => ∃ O9 : Nat → Int32, ∃ Y9 : Nat → Nat, ∃ Z9 : Nat → Nat, ∃ M9 : Nat → Nat, rz = (nI (cnS (rwS (tlS S) rw_ rn 7 0 (lpB S)).1)) ∧ wz = [(m0, .inr (5, [.ref m1, .ref m2, .ref m3, .int (nI kp), .ref m4, .ref m5, .ref m6, .ref m7, .ref m8, .int (nI rn), .ref m9, .int (nI tn), .int (nI ia), .int (nI wl), .ref m10, .ref m11, .ref m12, .int (nI si), .ref m13, .ref m14])), (m2, .inl (eI g, 49, .inl (fun j => nI (S j)))), (m4, .inl (eI g, 41, .inl O9)), (m5, .inl (eI g, 9, .inl (fun j => nI (Y9 j)))), (m6, .inl (eI g, 9, .inl (fun j => nI (Z9 j)))), (m7, .inl (eI g, 49, .inl (fun j => nI (M9 j)))), (m8, .inl (eI g, 12, .inl (fun j => nI (rw_ j))))]) 0 0 := by
  refine ctI (cc := cX5_stays) (maxL := 1) (ret := (some .int)) (by decide) rfl (Nat.le_of_ble_eq_true rfl) ?_
  intro p_ e_ s_ m_ bl_ mt_ cd_ A ls F hnm hP hD hS hl
  obtain ⟨hx, hb, hml, hown, hts, hK, hX, hA, hrt_, hlocks⟩ := id F
  have hl : lv_has ls 1 [(0, .ref m0)] := hl
  refine lv_aload_n hx hb dX5_stays_0 rfl (lv_at hl 0 rfl) ?_
  refine cVI (As := []) (rest := []) F (c_X5_tryRow l g m0 m1 m2 m3 m4 m5 m6 m7 m8 m9 m10 m11 m12 m13 m14 kp rn tn ia wl si S O Y Z M rw_ (hO) (hrn) (hrw)) kX5_tryRow rfl gX5_stays_X5_tryRow rfl rfl ⟨Nat.le_of_ble_eq_true rfl, Nat.le_of_ble_eq_true rfl⟩ hP hD hS [0, 1, 2, 3, 4, 5, 6] [] rfl rfl 0 rfl rfl hl.1 rfl rfl (Nat.le_of_ble_eq_true rfl) dX5_stays_1 ⟨Nat.le_of_ble_eq_true rfl, Nat.le_of_ble_eq_true rfl⟩ (fun rz w1 H locs hpo hP hD hS => ?_)
  obtain ⟨O9_1, Y9_1, Z9_1, M9_1, rfl, rfl, hpo1⟩ := hpo
  obtain ⟨hP, hD⟩ := nx (ws' := [(m0, .inr (5, [.ref m1, .ref m2, .ref m3, .int (nI kp), .ref m4, .ref m5, .ref m6, .ref m7, .ref m8, .int (nI rn), .ref m9, .int (nI tn), .int (nI ia), .int (nI wl), .ref m10, .ref m11, .ref m12, .int (nI si), .ref m13, .ref m14])), (m2, .inl (eI g, 49, .inl (fun j => nI (S j)))), (m4, .inl (eI g, 41, .inl O9_1)), (m5, .inl (eI g, 9, .inl (fun j => nI (Y9_1 j)))), (m6, .inl (eI g, 9, .inl (fun j => nI (Z9_1 j)))), (m7, .inl (eI g, 49, .inl (fun j => nI (M9_1 j)))), (m8, .inl (eI g, 12, .inl (fun j => nI (rw_ j))))]) hP hD [0, 1, 2, 3, 4, 5, 6] (ndB_ok _ rfl) rfl
  obtain ⟨hq1, hq9⟩ := hpo1
  refine lv_pop hx hb dX5_stays_4 rfl ?_
  refine lv_aload_n hx hb dX5_stays_5 rfl (lv_at hl 0 rfl) ?_
  refine xget F hP inX5_stays_X5 0 rfl rfl 7 (by decide) lkX5_stays_1 rfl dX5_stays_6 ?_
  refine cSI (As := [.ref m7]) (rest := []) F (c_X5_left l g m7 M9_1 (hq9)) kX5_left gX5_stays_X5_left rfl rfl ⟨Nat.le_of_ble_eq_true rfl, Nat.le_of_ble_eq_true rfl⟩ hP hD hS [5] [0, 1, 2, 3, 4, 6] rfl rfl hl.1 rfl rfl (Nat.le_of_ble_eq_true rfl) dX5_stays_9 ⟨Nat.le_of_ble_eq_true rfl, Nat.le_of_ble_eq_true rfl⟩ (fun rz w1 H locs hpo hP hD hS => ?_)
  obtain ⟨rfl, rfl⟩ := hpo
  obtain ⟨hP, hD⟩ := nx (ws' := [(m0, .inr (5, [.ref m1, .ref m2, .ref m3, .int (nI kp), .ref m4, .ref m5, .ref m6, .ref m7, .ref m8, .int (nI rn), .ref m9, .int (nI tn), .int (nI ia), .int (nI wl), .ref m10, .ref m11, .ref m12, .int (nI si), .ref m13, .ref m14])), (m2, .inl (eI g, 49, .inl (fun j => nI (S j)))), (m4, .inl (eI g, 41, .inl O9_1)), (m5, .inl (eI g, 9, .inl (fun j => nI (Y9_1 j)))), (m6, .inl (eI g, 9, .inl (fun j => nI (Z9_1 j)))), (m7, .inl (eI g, 49, .inl (fun j => nI (M9_1 j)))), (m8, .inl (eI g, 12, .inl (fun j => nI (rw_ j))))]) hP hD [0, 1, 2, 3, 4, 6, 5] (ndB_ok _ rfl) rfl
  exact rtI F hP hD hS dX5_stays_12 (⟨_, _, _, _, congrArg (fun z => nI (cnS z)) hq1, rfl⟩)

theorem inX5_judge_X5 : ∀ w ∈ u_ws RX5 TX5 20, w ∈ wsX5_judge := fun _ h => (List.mem_cons_of_mem _ (List.mem_append_right _ h))
theorem lkX5_judge_1 : Cond.fieldLink RX5 170 "StripInFiveStepsModel" "lined" "I" ∈ wsX5_judge := List.mem_of_getElem? (i := 1) rfl
theorem kX5_judge : Cal yX5_judge wsX5_judge cX5_judge 2 (some .int) 0 := ⟨⟨_, rfl⟩, by decide +kernel⟩
set_option maxHeartbeats 1000000 in
set_option maxRecDepth 100000 in
theorem c_X5_judge (l : Launch) (g : EE) (m0 : Nat) (m1 : Nat) (m2 : Nat) (m3 : Nat) (m4 : Nat) (m5 : Nat) (m6 : Nat) (m7 : Nat) (m8 : Nat) (m9 : Nat) (m10 : Nat) (m11 : Nat) (m12 : Nat) (m13 : Nat) (m14 : Nat) (kp : Nat) (rn : Nat) (tn : Nat) (ia : Nat) (wl : Nat) (si : Nat) (S : Nat → Nat) (O : Nat → Int32) (Y : Nat → Nat) (Z : Nat → Nat) (M : Nat → Nat) (rw_ : Nat → Nat) (hO : okS S) (hrn : rn ≤ 12) (hrw : ∀ j, rw_ j ≤ 99) : CI l yX5_judge wsX5_judge ({ frames := 7, cells := 0, slots := 0, locals := 158 }) g [.ref m0] [(m0, .inr (5, [.ref m1, .ref m2, .ref m3, .int (nI kp), .ref m4, .ref m5, .ref m6, .ref m7, .ref m8, .int (nI rn), .ref m9, .int (nI tn), .int (nI ia), .int (nI wl), .ref m10, .ref m11, .ref m12, .int (nI si), .ref m13, .ref m14])), (m2, .inl (eI g, 49, .inl (fun j => nI (S j)))), (m4, .inl (eI g, 41, .inl O)), (m5, .inl (eI g, 9, .inl (fun j => nI (Y j)))), (m6, .inl (eI g, 9, .inl (fun j => nI (Z j)))), (m7, .inl (eI g, 49, .inl (fun j => nI (M j)))), (m8, .inl (eI g, 12, .inl (fun j => nI (rw_ j))))] (fun (rz : Int32) (wz : va_W) => ∃ O9 : Nat → Int32, ∃ Y9 : Nat → Nat, ∃ Z9 : Nat → Nat, ∃ M9 : Nat → Nat, rz = ((rwS (tlS S) rw_ rn 7 0 (lpB S)).2) ∧ wz = [(m0, .inr (5, [.ref m1, .ref m2, .ref m3, .int (nI kp), .ref m4, .ref m5, .ref m6, .ref m7, .ref m8, .int (nI 0), .ref m9, .int (nI tn), .int (nI ia), .int (nI wl), .ref m10, .ref m11, .ref m12, .int (nI si), .ref m13, .ref m14])), (m2, .inl (eI g, 49, .inl (fun j => nI (S j)))), (m4, .inl (eI g, 41, .inl O9)), (m5, .inl (eI g, 9, .inl (fun j => nI (Y9 j)))), (m6, .inl (eI g, 9, .inl (fun j => nI (Z9 j)))), (m7, .inl (eI g, 49, .inl (fun j => nI (M9 j)))), (m8, .inl (eI g, 12, .inl (fun j => nI (rw_ j))))]) 0 0 := by
  refine ctI (cc := cX5_judge) (maxL := 2) (ret := (some .int)) (by decide) rfl (Nat.le_of_ble_eq_true rfl) ?_
  intro p_ e_ s_ m_ bl_ mt_ cd_ A ls F hnm hP hD hS hl
  obtain ⟨hx, hb, hml, hown, hts, hK, hX, hA, hrt_, hlocks⟩ := id F
  have hl : lv_has ls 2 [(0, .ref m0)] := hl
  refine lv_aload_n hx hb dX5_judge_0 rfl (lv_at hl 0 rfl) ?_
  refine cVI (As := []) (rest := []) F (c_X5_tryRow l g m0 m1 m2 m3 m4 m5 m6 m7 m8 m9 m10 m11 m12 m13 m14 kp rn tn ia wl si S O Y Z M rw_ (hO) (hrn) (hrw)) kX5_tryRow rfl gX5_judge_X5_tryRow rfl rfl ⟨Nat.le_of_ble_eq_true rfl, Nat.le_of_ble_eq_true rfl⟩ hP hD hS [0, 1, 2, 3, 4, 5, 6] [] rfl rfl 0 rfl rfl hl.1 rfl rfl (Nat.le_of_ble_eq_true rfl) dX5_judge_1 ⟨Nat.le_of_ble_eq_true rfl, Nat.le_of_ble_eq_true rfl⟩ (fun rz w1 H locs hpo hP hD hS => ?_)
  obtain ⟨O9_1, Y9_1, Z9_1, M9_1, rfl, rfl, hpo1⟩ := hpo
  obtain ⟨hP, hD⟩ := nx (ws' := [(m0, .inr (5, [.ref m1, .ref m2, .ref m3, .int (nI kp), .ref m4, .ref m5, .ref m6, .ref m7, .ref m8, .int (nI rn), .ref m9, .int (nI tn), .int (nI ia), .int (nI wl), .ref m10, .ref m11, .ref m12, .int (nI si), .ref m13, .ref m14])), (m2, .inl (eI g, 49, .inl (fun j => nI (S j)))), (m4, .inl (eI g, 41, .inl O9_1)), (m5, .inl (eI g, 9, .inl (fun j => nI (Y9_1 j)))), (m6, .inl (eI g, 9, .inl (fun j => nI (Z9_1 j)))), (m7, .inl (eI g, 49, .inl (fun j => nI (M9_1 j)))), (m8, .inl (eI g, 12, .inl (fun j => nI (rw_ j))))]) hP hD [0, 1, 2, 3, 4, 5, 6] (ndB_ok _ rfl) rfl
  refine lv_istore_n (lv' := [(1, .int ((rwS (tlS S) rw_ rn 7 0 (lpB S)).2)), (0, .ref m0)]) hx hb dX5_judge_4 rfl hl (by decide) rfl (fun ls hl => ?_)
  refine lv_aload_n hx hb dX5_judge_5 rfl (lv_at hl 1 rfl) ?_
  refine lv_iconst (v := (nI 0)) hx hb dX5_judge_6 (by decide) ?_
  refine xput F hP hD hS inX5_judge_X5 tyX5 tyX5_ok nmX5 0 rfl rfl 9 (by decide) lkX5_judge_1 rfl rfl rfl (Nat.le_of_ble_eq_true rfl) dX5_judge_7 (fun H locs hP hD hS => ?_)
  have hP : va_P (eD g) vwCl [(m0, .inr (5, [.ref m1, .ref m2, .ref m3, .int (nI kp), .ref m4, .ref m5, .ref m6, .ref m7, .ref m8, .int (nI 0), .ref m9, .int (nI tn), .int (nI ia), .int (nI wl), .ref m10, .ref m11, .ref m12, .int (nI si), .ref m13, .ref m14])), (m2, .inl (eI g, 49, .inl (fun j => nI (S j)))), (m4, .inl (eI g, 41, .inl O9_1)), (m5, .inl (eI g, 9, .inl (fun j => nI (Y9_1 j)))), (m6, .inl (eI g, 9, .inl (fun j => nI (Z9_1 j)))), (m7, .inl (eI g, 49, .inl (fun j => nI (M9_1 j)))), (m8, .inl (eI g, 12, .inl (fun j => nI (rw_ j))))] H := hP
  have hD : va_D A [(m0, .inr (5, [.ref m1, .ref m2, .ref m3, .int (nI kp), .ref m4, .ref m5, .ref m6, .ref m7, .ref m8, .int (nI 0), .ref m9, .int (nI tn), .int (nI ia), .int (nI wl), .ref m10, .ref m11, .ref m12, .int (nI si), .ref m13, .ref m14])), (m2, .inl (eI g, 49, .inl (fun j => nI (S j)))), (m4, .inl (eI g, 41, .inl O9_1)), (m5, .inl (eI g, 9, .inl (fun j => nI (Y9_1 j)))), (m6, .inl (eI g, 9, .inl (fun j => nI (Z9_1 j)))), (m7, .inl (eI g, 49, .inl (fun j => nI (M9_1 j)))), (m8, .inl (eI g, 12, .inl (fun j => nI (rw_ j))))] := hD
  refine lv_iload_n hx hb dX5_judge_10 rfl (lv_at hl 0 rfl) ?_
  exact rtI F hP hD hS dX5_judge_11 (⟨_, _, _, _, rfl, rfl⟩)
