theorem inX4_goOn_X4 : ∀ w ∈ u_ws RX4 TX4 10, w ∈ wsX4_goOn := fun _ h => (List.mem_cons_of_mem _ (List.mem_append_left _ (List.mem_append_left _ (List.mem_append_left _ (List.mem_append_right _ h)))))
theorem lkX4_goOn_1 : Cond.fieldLink RX4 10 "StripInFiveSteps" "now" "LStripInFiveSteps$Shed;" ∈ wsX4_goOn := List.mem_of_getElem? (i := 1) rfl
theorem inX4_goOn_X0 : ∀ w ∈ u_ws RX0 TX0 5, w ∈ wsX4_goOn := fun _ h => (List.mem_cons_of_mem _ (List.mem_append_left _ (List.mem_append_left _ (List.mem_append_right _ h))))
theorem lkX4_goOn_2 : Cond.fieldLink RX4 93 "StripInFiveSteps$Shed" "numbers" "[I" ∈ wsX4_goOn := List.mem_of_getElem? (i := 2) rfl
theorem kX4_goOn : Cal yX4_goOn wsX4_goOn cX4_goOn 5 (some .int) 0 := ⟨⟨_, rfl⟩, by decide +kernel⟩
set_option maxHeartbeats 4000000 in
set_option maxRecDepth 100000 in
theorem c_X4_goOn (l : Launch) (g : EE) (x0 : Nat) (h0 : Nat) (d0 : Nat) (k0 : Nat) (b0 : Nat) (a0 : Nat) (t0 : Nat) (r0 : Nat) (r1 : Nat) (ik : Nat) (rn : Nat) (h1 : Nat) (h2 : Nat) (W : Nat → Nat) (B : Nat → Nat) (sk : Nat) (ek : Nat) (tr : Nat) (a1 : Nat) (a2 : Nat) (a3 : Nat) (a4 : Nat) (a5 : Nat) (T : Nat → Int64) (ka : Nat) (Lb : Nat → Nat) (q2 : Nat → Nat) (n2 : Nat) (rf : Nat → Int32) (hW : ∀ j, W j ≤ 9) (hB : okB B) (hsk : sk ≤ 3) (hek : ek ≤ 4) (hC : Cch T Lb) : CI l yX4_goOn wsX4_goOn ({ frames := 6, cells := 0, slots := 0, locals := 152 }) g [.ref x0] [(x0, .inr (4, [.ref h0, .ref d0, .ref k0, .int (nI ik), .ref b0, .ref a0, .ref t0, .ref r0, .int (nI rn), .ref r1])), (h0, .inr (0, [.ref h1, .ref h2, .int (nI sk), .int (nI ek), .int (nI tr)])), (h1, .inl (eI g, 41, .inl (fun j => nI (W j)))), (h2, .inl (eI g, 5, .inl (fun j => nI (B j)))), (a0, .inr (2, [.ref a1, .ref a2, .ref a3, .int (nI ka), .ref a5])), (a1, .inl (eJ g, 1476, .inr (.inl T))), (a2, .inl (eI g, 4, .inl (fun j => nI (Lb j)))), (a3, .inr (1, [.ref a4, .int (nI n2)])), (a4, .inl (eI g, 7, .inl (fun j => nI (q2 j)))), (r1, .inl (eI g, 7, .inl rf))] (fun (rz : Int32) (wz : va_W) => ∃ T9 : Nat → Int64, ∃ ka9 : Nat, ∃ Lb9 : Nat → Nat, ∃ q9 : Nat → Nat, ∃ n9 : Nat, rz = (rsp (if cnS (lpB W) = 0 then 3 else 0) (nI (if B 3 * sg W 40 + fbS (tlT B sk ek) W (lpB W) (B 4) (bv (tlT B sk ek) (lpB W)) < faS W (lpB W) (giS W (lpB W) (B 4)) * (B 4) then 1 else 0))) ∧ wz = [(x0, .inr (4, [.ref h0, .ref d0, .ref k0, .int (nI ik), .ref b0, .ref a0, .ref t0, .ref r0, .int (nI rn), .ref r1])), (h0, .inr (0, [.ref h1, .ref h2, .int (nI sk), .int (nI ek), .int (nI tr)])), (h1, .inl (eI g, 41, .inl (fun j => nI (W j)))), (h2, .inl (eI g, 5, .inl (fun j => nI (B j)))), (a0, .inr (2, [.ref a1, .ref a2, .ref a3, .int (nI ka9), .ref a5])), (a1, .inl (eJ g, 1476, .inr (.inl T9))), (a2, .inl (eI g, 4, .inl (fun j => nI (Lb9 j)))), (a3, .inr (1, [.ref a4, .int (nI n9)])), (a4, .inl (eI g, 7, .inl (fun j => nI (q9 j)))), (r1, .inl (eI g, 7, .inl (bump rf (if cnS (lpB W) = 0 then 3 else 0))))] ∧ Cch T9 Lb9) 0 0 := by
  refine ctI (cc := cX4_goOn) (maxL := 5) (ret := (some .int)) (by decide) rfl (Nat.le_of_ble_eq_true rfl) ?_
  intro p_ e_ s_ m_ bl_ mt_ cd_ A ls F hnm hP hD hS hl
  obtain ⟨hx, hb, hml, hown, hts, hK, hX, hA, hrt_, hlocks⟩ := id F
  have hl : lv_has ls 5 [(0, .ref x0)] := hl
  obtain ⟨hb0, hb1, hb2, hb3, hb4, hb5⟩ := okB_b hB
  refine lv_aload_n hx hb dX4_goOn_0 rfl (lv_at hl 0 rfl) ?_
  refine xget F hP inX4_goOn_X4 0 rfl rfl 0 (by decide) lkX4_goOn_1 rfl dX4_goOn_1 ?_
  refine cVL (As := []) (rest := []) F (c_X0_left l g h0 h1 h2 W B sk ek tr (hW)) kX0_left rfl gX4_goOn_X0_left rfl rfl ⟨Nat.le_of_ble_eq_true rfl, Nat.le_of_ble_eq_true rfl⟩ hP hD hS [1, 2, 3] [0, 4, 5, 6, 7, 8, 9] rfl rfl 0 rfl rfl hl.1 rfl rfl (Nat.le_of_ble_eq_true rfl) dX4_goOn_4 ⟨Nat.le_of_ble_eq_true rfl, Nat.le_of_ble_eq_true rfl⟩ (fun rz w1 H locs hpo hP hD hS => ?_)
  obtain ⟨rfl, rfl⟩ := hpo
  obtain ⟨hP, hD⟩ := nx (ws' := [(x0, .inr (4, [.ref h0, .ref d0, .ref k0, .int (nI ik), .ref b0, .ref a0, .ref t0, .ref r0, .int (nI rn), .ref r1])), (h0, .inr (0, [.ref h1, .ref h2, .int (nI sk), .int (nI ek), .int (nI tr)])), (h1, .inl (eI g, 41, .inl (fun j => nI (W j)))), (h2, .inl (eI g, 5, .inl (fun j => nI (B j)))), (a0, .inr (2, [.ref a1, .ref a2, .ref a3, .int (nI ka), .ref a5])), (a1, .inl (eJ g, 1476, .inr (.inl T))), (a2, .inl (eI g, 4, .inl (fun j => nI (Lb j)))), (a3, .inr (1, [.ref a4, .int (nI n2)])), (a4, .inl (eI g, 7, .inl (fun j => nI (q2 j)))), (r1, .inl (eI g, 7, .inl rf))]) hP hD [0, 7, 8, 9, 1, 2, 3, 4, 5, 6] (ndB_ok _ rfl) rfl
  refine lv_lstore_n (lv' := [(1, .long (lfM W)), (0, .ref x0)]) hx hb dX4_goOn_7 rfl hl (by decide) rfl (fun ls hl => ?_)
  refine lv_lload_n hx hb dX4_goOn_8 rfl (lv_at hl 0 rfl) ?_
  refine lv_lconst (v := lN 0) hx hb dX4_goOn_9 rfl ?_
  refine jne (tgt := 21) hx hb dX4_goOn_10 dX4_goOn_11 (by decide) (fun c11 => ?_) (fun c11 => ?_)
  · skip
    have hc0 : ¬ cnS (lpB W) = 0 := fun z => c11 ((lf0 W).mpr z)
    refine lv_aload_n hx hb dX4_goOn_21 rfl (lv_at hl 1 rfl) ?_
    refine xget F hP inX4_goOn_X4 0 rfl rfl 0 (by decide) lkX4_goOn_1 rfl dX4_goOn_22 ?_
    refine xget F hP inX4_goOn_X0 1 rfl rfl 1 (by decide) lkX4_goOn_2 rfl dX4_goOn_25 ?_
    refine lv_iconst (v := (nI 3)) hx hb dX4_goOn_28 (by decide) ?_
    refine xald F hP 3 (v := (nI (B 3))) rfl (by omega) (by omega) rfl dX4_goOn_29 ?_
    refine lv_i2l (v := lN (B 3)) hx hb dX4_goOn_30 (nI_l (by omega)) ?_
    refine lv_aload_n hx hb dX4_goOn_31 rfl (lv_at hl 1 rfl) ?_
    refine xget F hP inX4_goOn_X4 0 rfl rfl 0 (by decide) lkX4_goOn_1 rfl dX4_goOn_32 ?_
    refine lv_lload_n hx hb dX4_goOn_35 rfl (lv_at hl 0 rfl) ?_
    refine cVI (As := [.long (lfM W)]) (rest := [.long (lN (B 3))]) F (c_X0_weightOf l g h0 h1 h2 W B sk ek tr (lfM W) ) kX0_weightOf rfl gX4_goOn_X0_weightOf rfl rfl ⟨Nat.le_of_ble_eq_true rfl, Nat.le_of_ble_eq_true rfl⟩ hP hD hS [1, 2, 3] [0, 4, 5, 6, 7, 8, 9] rfl rfl 0 rfl rfl hl.1 rfl rfl (Nat.le_of_ble_eq_true rfl) dX4_goOn_36 ⟨Nat.le_of_ble_eq_true rfl, Nat.le_of_ble_eq_true rfl⟩ (fun rz w1 H locs hpo hP hD hS => ?_)
    obtain ⟨rfl, rfl⟩ := hpo
    obtain ⟨hP, hD⟩ := nx (ws' := [(x0, .inr (4, [.ref h0, .ref d0, .ref k0, .int (nI ik), .ref b0, .ref a0, .ref t0, .ref r0, .int (nI rn), .ref r1])), (h0, .inr (0, [.ref h1, .ref h2, .int (nI sk), .int (nI ek), .int (nI tr)])), (h1, .inl (eI g, 41, .inl (fun j => nI (W j)))), (h2, .inl (eI g, 5, .inl (fun j => nI (B j)))), (a0, .inr (2, [.ref a1, .ref a2, .ref a3, .int (nI ka), .ref a5])), (a1, .inl (eJ g, 1476, .inr (.inl T))), (a2, .inl (eI g, 4, .inl (fun j => nI (Lb j)))), (a3, .inr (1, [.ref a4, .int (nI n2)])), (a4, .inl (eI g, 7, .inl (fun j => nI (q2 j)))), (r1, .inl (eI g, 7, .inl rf))]) hP hD [0, 7, 8, 9, 1, 2, 3, 4, 5, 6] (ndB_ok _ rfl) rfl
    refine sti (congrArg nI (show wtS W (bitL (lfM W)) = sg W 40 from by rw [bitL_lfM, wtS_lp])) ?_
    refine lv_i2l (v := lN (sg W 40)) hx hb dX4_goOn_39 (nI_l (by have := sgW_b (W := W) (fun j _ => hW j); omega)) ?_
    refine xlmul hx hb dX4_goOn_40 ?_
    refine lv_aload_n hx hb dX4_goOn_41 rfl (lv_at hl 1 rfl) ?_
    refine lv_lload_n hx hb dX4_goOn_42 rfl (lv_at hl 0 rfl) ?_
    refine cVL (As := [.long (lfM W)]) (rest := [.long (lN ((B 3) * (sg W 40)))]) F (c_X4_faultsBehindStrip l g x0 h0 d0 k0 b0 a0 t0 r0 r1 ik rn h1 h2 W B sk ek tr a1 a2 a3 a4 a5 T ka Lb q2 n2 (lfM W) (hC) (hB) (hek) (hsk) (inS_lf W) (hW)) kX4_faultsBehindStrip rfl gX4_goOn_X4_faultsBehindStrip rfl rfl ⟨Nat.le_of_ble_eq_true rfl, Nat.le_of_ble_eq_true rfl⟩ hP hD hS [0, 1, 2, 3, 4, 5, 6, 7, 8] [9] rfl rfl 0 rfl rfl hl.1 rfl rfl (Nat.le_of_ble_eq_true rfl) dX4_goOn_43 ⟨Nat.le_of_ble_eq_true rfl, Nat.le_of_ble_eq_true rfl⟩ (fun rz w1 H locs hpo hP hD hS => ?_)
    obtain ⟨T9_3, Lb9_3, q9_3, n9_3, rfl, rfl, hpo3⟩ := hpo
    obtain ⟨hP, hD⟩ := nx (ws' := [(x0, .inr (4, [.ref h0, .ref d0, .ref k0, .int (nI ik), .ref b0, .ref a0, .ref t0, .ref r0, .int (nI rn), .ref r1])), (h0, .inr (0, [.ref h1, .ref h2, .int (nI sk), .int (nI ek), .int (nI tr)])), (h1, .inl (eI g, 41, .inl (fun j => nI (W j)))), (h2, .inl (eI g, 5, .inl (fun j => nI (B j)))), (a0, .inr (2, [.ref a1, .ref a2, .ref a3, .int (nI (sk * 369)), .ref a5])), (a1, .inl (eJ g, 1476, .inr (.inl T9_3))), (a2, .inl (eI g, 4, .inl (fun j => nI (Lb9_3 j)))), (a3, .inr (1, [.ref a4, .int (nI n9_3)])), (a4, .inl (eI g, 7, .inl (fun j => nI (q9_3 j)))), (r1, .inl (eI g, 7, .inl rf))]) hP hD [1, 2, 3, 4, 5, 6, 7, 8, 9, 0] (ndB_ok _ rfl) rfl
    have hC9 := hpo3
    refine stl (congrArg lN (show fbS (tlT B sk ek) W (bitL (lfM W)) (B 4) (bv (tlT B sk ek) (bitL (lfM W))) = fbS (tlT B sk ek) W (lpB W) (B 4) (bv (tlT B sk ek) (lpB W)) from by rw [bitL_lfM])) ?_
    refine xladd hx hb dX4_goOn_46 ?_
    have hbA := mul_le_c (show B 3 ≤ 99 by omega) (sgW_b (W := W) (fun j _ => hW j))
    have hbF := fbS_b (t := (tlT B sk ek)) (p := lpB W) (v := bv (tlT B sk ek) (lpB W)) hW (show B 4 ≤ 99 by omega)
    have hbL := faS_b (p := lpB W) hW (giS_in W (lpB W) (B 4)).2 (show B 4 ≤ 99 by omega)
    refine lv_lstore_n (lv' := [(3, .long (lN (((B 3) * (sg W 40)) + (fbS (tlT B sk ek) W (lpB W) (B 4) (bv (tlT B sk ek) (lpB W)))))), (1, .long (lfM W)), (0, .ref x0)]) hx hb dX4_goOn_47 rfl hl (by decide) rfl (fun ls hl => ?_)
    refine lv_lload_n hx hb dX4_goOn_48 rfl (lv_at hl 0 rfl) ?_
    refine lv_aload_n hx hb dX4_goOn_49 rfl (lv_at hl 2 rfl) ?_
    refine xget F hP inX4_goOn_X4 0 rfl rfl 0 (by decide) lkX4_goOn_1 rfl dX4_goOn_50 ?_
    refine lv_lload_n hx hb dX4_goOn_53 rfl (lv_at hl 1 rfl) ?_
    refine cVL (As := [.long (lfM W)]) (rest := [.long (lN (((B 3) * (sg W 40)) + (fbS (tlT B sk ek) W (lpB W) (B 4) (bv (tlT B sk ek) (lpB W)))))]) F (c_X0_leastFaults l g h0 h1 h2 W B sk ek tr (lfM W) (hW) (by omega)) kX0_leastFaults rfl gX4_goOn_X0_leastFaults rfl rfl ⟨Nat.le_of_ble_eq_true rfl, Nat.le_of_ble_eq_true rfl⟩ hP hD hS [1, 2, 3] [0, 4, 5, 6, 7, 8, 9] rfl rfl 0 rfl rfl hl.1 rfl rfl (Nat.le_of_ble_eq_true rfl) dX4_goOn_54 ⟨Nat.le_of_ble_eq_true rfl, Nat.le_of_ble_eq_true rfl⟩ (fun rz w1 H locs hpo hP hD hS => ?_)
    obtain ⟨rfl, rfl⟩ := hpo
    obtain ⟨hP, hD⟩ := nx (ws' := [(x0, .inr (4, [.ref h0, .ref d0, .ref k0, .int (nI ik), .ref b0, .ref a0, .ref t0, .ref r0, .int (nI rn), .ref r1])), (h0, .inr (0, [.ref h1, .ref h2, .int (nI sk), .int (nI ek), .int (nI tr)])), (h1, .inl (eI g, 41, .inl (fun j => nI (W j)))), (h2, .inl (eI g, 5, .inl (fun j => nI (B j)))), (a0, .inr (2, [.ref a1, .ref a2, .ref a3, .int (nI (sk * 369)), .ref a5])), (a1, .inl (eJ g, 1476, .inr (.inl T9_3))), (a2, .inl (eI g, 4, .inl (fun j => nI (Lb9_3 j)))), (a3, .inr (1, [.ref a4, .int (nI n9_3)])), (a4, .inl (eI g, 7, .inl (fun j => nI (q9_3 j)))), (r1, .inl (eI g, 7, .inl rf))]) hP hD [0, 7, 8, 9, 1, 2, 3, 4, 5, 6] (ndB_ok _ rfl) rfl
    refine stl (congrArg lN (show faS W (bitL (lfM W)) (giS W (bitL (lfM W)) (B 4)) * B 4 = faS W (lpB W) (giS W (lpB W) (B 4)) * B 4 from by rw [bitL_lfM])) ?_
    refine kge (tgt := 65) hx hb dX4_goOn_57 dX4_goOn_58 (by decide) (by omega) (by omega) (fun c58 => ?_) (fun c58 => ?_)
    · skip
      refine lv_iconst (v := (nI 0)) hx hb dX4_goOn_65 (by decide) ?_
      exact rtI F hP hD hS dX4_goOn_66 (by rw [show (if cnS (lpB W) = 0 then 3 else 0) = 0 from (by first | (exfalso; omega) | ((try simp only [true_and, and_true]); (repeat (first | rw [if_pos (by omega)] | rw [if_neg (by omega)])) <;> rfl))]; first | done | exact ⟨_, _, _, _, _, by first | ((try simp only [true_and, and_true, rsp_0, rspL_0, bump_0]) <;> (repeat (first | rw [if_pos (by omega)] | rw [if_neg (by omega)])) <;> rfl) | (exfalso; omega), by first | ((try simp only [true_and, and_true, rsp_0, rspL_0, bump_0]) <;> (repeat (first | rw [if_pos (by omega)] | rw [if_neg (by omega)])) <;> rfl) | (exfalso; omega), hC9⟩)
    · skip
      refine lv_iconst (v := (nI 1)) hx hb dX4_goOn_61 (by decide) ?_
      refine lv_goto (tgt := 66) hx hb dX4_goOn_62 (by decide) ?_
      exact rtI F hP hD hS dX4_goOn_66 (by rw [show (if cnS (lpB W) = 0 then 3 else 0) = 0 from (by first | (exfalso; omega) | ((try simp only [true_and, and_true]); (repeat (first | rw [if_pos (by omega)] | rw [if_neg (by omega)])) <;> rfl))]; first | done | exact ⟨_, _, _, _, _, by first | ((try simp only [true_and, and_true, rsp_0, rspL_0, bump_0]) <;> (repeat (first | rw [if_pos (by omega)] | rw [if_neg (by omega)])) <;> rfl) | (exfalso; omega), by first | ((try simp only [true_and, and_true, rsp_0, rspL_0, bump_0]) <;> (repeat (first | rw [if_pos (by omega)] | rw [if_neg (by omega)])) <;> rfl) | (exfalso; omega), hC9⟩)
  · skip
    have hc0 : cnS (lpB W) = 0 := (lf0 W).mp c11
    refine lv_aload_n hx hb dX4_goOn_14 rfl (lv_at hl 1 rfl) ?_
    refine lv_bipush (v := (-3)) hx hb dX4_goOn_15 (by decide) ?_
    refine cVI (As := [.int (-3)]) (rest := []) F (c_X4_refuse l g x0 h0 d0 k0 b0 a0 t0 r0 r1 ik rn rf (-3) 3 (by decide) (by omega) (by omega)) kX4_refuse rfl gX4_goOn_X4_refuse rfl rfl ⟨Nat.le_of_ble_eq_true rfl, Nat.le_of_ble_eq_true rfl⟩ hP hD hS [0, 9] [1, 2, 3, 4, 5, 6, 7, 8] rfl rfl 0 rfl rfl hl.1 rfl rfl (Nat.le_of_ble_eq_true rfl) dX4_goOn_17 ⟨Nat.le_of_ble_eq_true rfl, Nat.le_of_ble_eq_true rfl⟩ (fun rz w1 H locs hpo hP hD hS => ?_)
    obtain ⟨rfl, rfl⟩ := hpo
    obtain ⟨hP, hD⟩ := nx (ws' := [(x0, .inr (4, [.ref h0, .ref d0, .ref k0, .int (nI ik), .ref b0, .ref a0, .ref t0, .ref r0, .int (nI rn), .ref r1])), (h0, .inr (0, [.ref h1, .ref h2, .int (nI sk), .int (nI ek), .int (nI tr)])), (h1, .inl (eI g, 41, .inl (fun j => nI (W j)))), (h2, .inl (eI g, 5, .inl (fun j => nI (B j)))), (a0, .inr (2, [.ref a1, .ref a2, .ref a3, .int (nI ka), .ref a5])), (a1, .inl (eJ g, 1476, .inr (.inl T))), (a2, .inl (eI g, 4, .inl (fun j => nI (Lb j)))), (a3, .inr (1, [.ref a4, .int (nI n2)])), (a4, .inl (eI g, 7, .inl (fun j => nI (q2 j)))), (r1, .inl (eI g, 7, .inl (bump rf 3)))]) hP hD [8, 0, 1, 2, 3, 4, 5, 6, 7, 9] (ndB_ok _ rfl) rfl
    exact rtI F hP hD hS dX4_goOn_20 (by rw [show (if cnS (lpB W) = 0 then 3 else 0) = 3 from (by first | (exfalso; omega) | ((try simp only [true_and, and_true]); (repeat (first | rw [if_pos (by omega)] | rw [if_neg (by omega)])) <;> rfl))]; first | done | exact ⟨T, ka, Lb, q2, n2, by rfl, by rfl, hC⟩)

theorem inX5_goOn_X5 : ∀ w ∈ u_ws RX5 TX5 20, w ∈ wsX5_goOn := fun _ h => (List.mem_cons_of_mem _ (List.mem_append_right _ h))
theorem lkX5_goOn_1 : Cond.fieldLink RX5 19 "StripInFiveStepsModel" "now" "[I" ∈ wsX5_goOn := List.mem_of_getElem? (i := 1) rfl
theorem kX5_goOn : Cal yX5_goOn wsX5_goOn cX5_goOn 1 (some .int) 0 := ⟨⟨_, rfl⟩, by decide +kernel⟩
set_option maxHeartbeats 4000000 in
set_option maxRecDepth 100000 in
theorem c_X5_goOn (l : Launch) (g : EE) (m0 : Nat) (m1 : Nat) (m2 : Nat) (m3 : Nat) (m4 : Nat) (m5 : Nat) (m6 : Nat) (m7 : Nat) (m8 : Nat) (m9 : Nat) (m10 : Nat) (m11 : Nat) (m12 : Nat) (m13 : Nat) (m14 : Nat) (kp : Nat) (rn : Nat) (tn : Nat) (ia : Nat) (wl : Nat) (si : Nat) (S : Nat → Nat) (O : Nat → Int32) (Y : Nat → Nat) (Z : Nat → Nat) (M : Nat → Nat) (rf : Nat → Int32) (hO : okS S) : CI l yX5_goOn wsX5_goOn ({ frames := 9, cells := 0, slots := 0, locals := 209 }) g [.ref m0] [(m0, .inr (5, [.ref m1, .ref m2, .ref m3, .int (nI kp), .ref m4, .ref m5, .ref m6, .ref m7, .ref m8, .int (nI rn), .ref m9, .int (nI tn), .int (nI ia), .int (nI wl), .ref m10, .ref m11, .ref m12, .int (nI si), .ref m13, .ref m14])), (m2, .inl (eI g, 49, .inl (fun j => nI (S j)))), (m4, .inl (eI g, 41, .inl O)), (m5, .inl (eI g, 9, .inl (fun j => nI (Y j)))), (m6, .inl (eI g, 9, .inl (fun j => nI (Z j)))), (m7, .inl (eI g, 49, .inl (fun j => nI (M j)))), (m1, .inl (eI g, 7, .inl rf))] (fun (rz : Int32) (wz : va_W) => ∃ O9 : Nat → Int32, ∃ Y9 : Nat → Nat, ∃ Z9 : Nat → Nat, ∃ M9 : Nat → Nat, rz = (rsp (if cnS (lpB S) = 0 then 3 else 0) (nI (if S 44 * sg S 40 + fbS (tlS S) S (lpB S) (S 45) (bv (tlS S) (lpB S)) < faS S (lpB S) (giS S (lpB S) (S 45)) * (S 45) then 1 else 0))) ∧ wz = [(m0, .inr (5, [.ref m1, .ref m2, .ref m3, .int (nI kp), .ref m4, .ref m5, .ref m6, .ref m7, .ref m8, .int (nI rn), .ref m9, .int (nI tn), .int (nI ia), .int (nI wl), .ref m10, .ref m11, .ref m12, .int (nI si), .ref m13, .ref m14])), (m2, .inl (eI g, 49, .inl (fun j => nI (S j)))), (m4, .inl (eI g, 41, .inl O9)), (m5, .inl (eI g, 9, .inl (fun j => nI (Y9 j)))), (m6, .inl (eI g, 9, .inl (fun j => nI (Z9 j)))), (m7, .inl (eI g, 49, .inl (fun j => nI (M9 j)))), (m1, .inl (eI g, 7, .inl (bump rf (if cnS (lpB S) = 0 then 3 else 0))))]) 0 0 := by
  refine ctI (cc := cX5_goOn) (maxL := 1) (ret := (some .int)) (by decide) rfl (Nat.le_of_ble_eq_true rfl) ?_
  intro p_ e_ s_ m_ bl_ mt_ cd_ A ls F hnm hP hD hS hl
  obtain ⟨hx, hb, hml, hown, hts, hK, hX, hA, hrt_, hlocks⟩ := id F
  have hl : lv_has ls 1 [(0, .ref m0)] := hl
  obtain ⟨hw40, ⟨h41a, h41b⟩, ⟨h42a, h42b⟩, h43, h44, h45, h46, h47, h48⟩ := id hO
  refine lv_aload_n hx hb dX5_goOn_0 rfl (lv_at hl 0 rfl) ?_
  refine cVI (As := []) (rest := []) F (c_X5_isEmpty l g m0 m1 m2 m3 m4 m5 m6 m7 m8 m9 m10 m11 m12 m13 m14 kp rn tn ia wl si S (hO)) kX5_isEmpty rfl gX5_goOn_X5_isEmpty rfl rfl ⟨Nat.le_of_ble_eq_true rfl, Nat.le_of_ble_eq_true rfl⟩ hP hD hS [0, 1] [2, 3, 4, 5, 6] rfl rfl 0 rfl rfl hl.1 rfl rfl (Nat.le_of_ble_eq_true rfl) dX5_goOn_1 ⟨Nat.le_of_ble_eq_true rfl, Nat.le_of_ble_eq_true rfl⟩ (fun rz w1 H locs hpo hP hD hS => ?_)
  obtain ⟨rfl, rfl⟩ := hpo
  obtain ⟨hP, hD⟩ := nx (ws' := [(m0, .inr (5, [.ref m1, .ref m2, .ref m3, .int (nI kp), .ref m4, .ref m5, .ref m6, .ref m7, .ref m8, .int (nI rn), .ref m9, .int (nI tn), .int (nI ia), .int (nI wl), .ref m10, .ref m11, .ref m12, .int (nI si), .ref m13, .ref m14])), (m2, .inl (eI g, 49, .inl (fun j => nI (S j)))), (m4, .inl (eI g, 41, .inl O)), (m5, .inl (eI g, 9, .inl (fun j => nI (Y j)))), (m6, .inl (eI g, 9, .inl (fun j => nI (Z j)))), (m7, .inl (eI g, 49, .inl (fun j => nI (M j)))), (m1, .inl (eI g, 7, .inl rf))]) hP hD [5, 6, 0, 1, 2, 3, 4] (ndB_ok _ rfl) rfl
  refine bqeq (tgt := 14) hx hb dX5_goOn_4 (by decide) (fun c4 => ?_) (fun c4 => ?_)
  · skip
    have hc0 : ¬ cnS (lpB S) = 0 := fun z => c4 ((em0 S).mpr z)
    refine lv_aload_n hx hb dX5_goOn_14 rfl (lv_at hl 0 rfl) ?_
    refine xget F hP inX5_goOn_X5 0 rfl rfl 1 (by decide) lkX5_goOn_1 rfl dX5_goOn_15 ?_
    refine lv_bipush (v := (nI 44)) hx hb dX5_goOn_18 (by decide) ?_
    refine xald F hP 1 (v := (nI (S 44))) rfl (by omega) (by omega) rfl dX5_goOn_20 ?_
    refine lv_aload_n hx hb dX5_goOn_21 rfl (lv_at hl 0 rfl) ?_
    refine xget F hP inX5_goOn_X5 0 rfl rfl 1 (by decide) lkX5_goOn_1 rfl dX5_goOn_22 ?_
    refine cSI (As := [.ref m2]) (rest := [.int (nI (S 44))]) F (c_X5_weight l g m2 S ) kX5_weight gX5_goOn_X5_weight rfl rfl ⟨Nat.le_of_ble_eq_true rfl, Nat.le_of_ble_eq_true rfl⟩ hP hD hS [1] [0, 2, 3, 4, 5, 6] rfl rfl hl.1 rfl rfl (Nat.le_of_ble_eq_true rfl) dX5_goOn_25 ⟨Nat.le_of_ble_eq_true rfl, Nat.le_of_ble_eq_true rfl⟩ (fun rz w1 H locs hpo hP hD hS => ?_)
    obtain ⟨rfl, rfl⟩ := hpo
    obtain ⟨hP, hD⟩ := nx (ws' := [(m0, .inr (5, [.ref m1, .ref m2, .ref m3, .int (nI kp), .ref m4, .ref m5, .ref m6, .ref m7, .ref m8, .int (nI rn), .ref m9, .int (nI tn), .int (nI ia), .int (nI wl), .ref m10, .ref m11, .ref m12, .int (nI si), .ref m13, .ref m14])), (m2, .inl (eI g, 49, .inl (fun j => nI (S j)))), (m4, .inl (eI g, 41, .inl O)), (m5, .inl (eI g, 9, .inl (fun j => nI (Y j)))), (m6, .inl (eI g, 9, .inl (fun j => nI (Z j)))), (m7, .inl (eI g, 49, .inl (fun j => nI (M j)))), (m1, .inl (eI g, 7, .inl rf))]) hP hD [0, 6, 1, 2, 3, 4, 5] (ndB_ok _ rfl) rfl
    refine xmul hx hb dX5_goOn_28 ?_
    refine lv_aload_n hx hb dX5_goOn_29 rfl (lv_at hl 0 rfl) ?_
    refine cVI (As := []) (rest := [.int (nI ((S 44) * (sg S 40)))]) F (c_X5_faultsBehind l g m0 m1 m2 m3 m4 m5 m6 m7 m8 m9 m10 m11 m12 m13 m14 kp rn tn ia wl si S O Y Z M (hO)) kX5_faultsBehind rfl gX5_goOn_X5_faultsBehind rfl rfl ⟨Nat.le_of_ble_eq_true rfl, Nat.le_of_ble_eq_true rfl⟩ hP hD hS [0, 1, 2, 3, 4, 5] [6] rfl rfl 0 rfl rfl hl.1 rfl rfl (Nat.le_of_ble_eq_true rfl) dX5_goOn_30 ⟨Nat.le_of_ble_eq_true rfl, Nat.le_of_ble_eq_true rfl⟩ (fun rz w1 H locs hpo hP hD hS => ?_)
    obtain ⟨O9_3, Y9_3, Z9_3, M9_3, rfl, rfl⟩ := hpo
    obtain ⟨hP, hD⟩ := nx (ws' := [(m0, .inr (5, [.ref m1, .ref m2, .ref m3, .int (nI kp), .ref m4, .ref m5, .ref m6, .ref m7, .ref m8, .int (nI rn), .ref m9, .int (nI tn), .int (nI ia), .int (nI wl), .ref m10, .ref m11, .ref m12, .int (nI si), .ref m13, .ref m14])), (m2, .inl (eI g, 49, .inl (fun j => nI (S j)))), (m4, .inl (eI g, 41, .inl O9_3)), (m5, .inl (eI g, 9, .inl (fun j => nI (Y9_3 j)))), (m6, .inl (eI g, 9, .inl (fun j => nI (Z9_3 j)))), (m7, .inl (eI g, 49, .inl (fun j => nI (M9_3 j)))), (m1, .inl (eI g, 7, .inl rf))]) hP hD [1, 2, 3, 4, 5, 6, 0] (ndB_ok _ rfl) rfl
    refine xadd hx hb dX5_goOn_33 ?_
    refine lv_aload_n hx hb dX5_goOn_34 rfl (lv_at hl 0 rfl) ?_
    refine lv_aload_n hx hb dX5_goOn_35 rfl (lv_at hl 0 rfl) ?_
    refine xget F hP inX5_goOn_X5 0 rfl rfl 1 (by decide) lkX5_goOn_1 rfl dX5_goOn_36 ?_
    refine lv_aload_n hx hb dX5_goOn_39 rfl (lv_at hl 0 rfl) ?_
    refine lv_aload_n hx hb dX5_goOn_40 rfl (lv_at hl 0 rfl) ?_
    refine xget F hP inX5_goOn_X5 0 rfl rfl 1 (by decide) lkX5_goOn_1 rfl dX5_goOn_41 ?_
    refine cVI (As := [.ref m2]) (rest := [.ref m2, .ref m0, .int (nI (((S 44) * (sg S 40)) + (fbS (tlS S) S (lpB S) (S 45) (bv (tlS S) (lpB S)))))]) F (nc_X5_giveBy l g m0 m1 m2 m3 m4 m5 m6 m7 m8 m9 m10 m11 m12 m13 m14 kp rn tn ia wl si S (hO)) kX5_giveBy rfl gX5_goOn_X5_giveBy rfl rfl ⟨Nat.le_of_ble_eq_true rfl, Nat.le_of_ble_eq_true rfl⟩ hP hD hS [0, 1] [2, 3, 4, 5, 6] rfl rfl 0 rfl rfl hl.1 rfl rfl (Nat.le_of_ble_eq_true rfl) dX5_goOn_44 ⟨Nat.le_of_ble_eq_true rfl, Nat.le_of_ble_eq_true rfl⟩ (fun rz w1 H locs hpo hP hD hS => ?_)
    obtain ⟨rfl, rfl⟩ := hpo
    obtain ⟨hP, hD⟩ := nx (ws' := [(m0, .inr (5, [.ref m1, .ref m2, .ref m3, .int (nI kp), .ref m4, .ref m5, .ref m6, .ref m7, .ref m8, .int (nI rn), .ref m9, .int (nI tn), .int (nI ia), .int (nI wl), .ref m10, .ref m11, .ref m12, .int (nI si), .ref m13, .ref m14])), (m2, .inl (eI g, 49, .inl (fun j => nI (S j)))), (m4, .inl (eI g, 41, .inl O9_3)), (m5, .inl (eI g, 9, .inl (fun j => nI (Y9_3 j)))), (m6, .inl (eI g, 9, .inl (fun j => nI (Z9_3 j)))), (m7, .inl (eI g, 49, .inl (fun j => nI (M9_3 j)))), (m1, .inl (eI g, 7, .inl rf))]) hP hD [5, 6, 0, 1, 2, 3, 4] (ndB_ok _ rfl) rfl
    refine cVI (As := [.ref m2, .int (nI (giS S (lpB S) (S 45)))]) (rest := [.int (nI (((S 44) * (sg S 40)) + (fbS (tlS S) S (lpB S) (S 45) (bv (tlS S) (lpB S)))))]) F (nc_X5_faultsAt l g m0 m1 m2 m3 m4 m5 m6 m7 m8 m9 m10 m11 m12 m13 m14 kp rn tn ia wl si S (giS S (lpB S) (S 45)) (hO) ((giS_in _ _ _).2)) kX5_faultsAt rfl gX5_goOn_X5_faultsAt rfl rfl ⟨Nat.le_of_ble_eq_true rfl, Nat.le_of_ble_eq_true rfl⟩ hP hD hS [0, 1] [2, 3, 4, 5, 6] rfl rfl 0 rfl rfl hl.1 rfl rfl (Nat.le_of_ble_eq_true rfl) dX5_goOn_47 ⟨Nat.le_of_ble_eq_true rfl, Nat.le_of_ble_eq_true rfl⟩ (fun rz w1 H locs hpo hP hD hS => ?_)
    obtain ⟨rfl, rfl⟩ := hpo
    obtain ⟨hP, hD⟩ := nx (ws' := [(m0, .inr (5, [.ref m1, .ref m2, .ref m3, .int (nI kp), .ref m4, .ref m5, .ref m6, .ref m7, .ref m8, .int (nI rn), .ref m9, .int (nI tn), .int (nI ia), .int (nI wl), .ref m10, .ref m11, .ref m12, .int (nI si), .ref m13, .ref m14])), (m2, .inl (eI g, 49, .inl (fun j => nI (S j)))), (m4, .inl (eI g, 41, .inl O9_3)), (m5, .inl (eI g, 9, .inl (fun j => nI (Y9_3 j)))), (m6, .inl (eI g, 9, .inl (fun j => nI (Z9_3 j)))), (m7, .inl (eI g, 49, .inl (fun j => nI (M9_3 j)))), (m1, .inl (eI g, 7, .inl rf))]) hP hD [5, 6, 0, 1, 2, 3, 4] (ndB_ok _ rfl) rfl
    have hbA := mul_le_c h44 (sgW_b hO.1)
    have hbF := fbS_b2 (t := tlS S) (p := lpB S) (v := bv (tlS S) (lpB S)) hO.1 h45
    have hbL := faS_b2 (p := lpB S) hO.1 (giS_in S (lpB S) (S 45)).2 h45
    refine xge (tgt := 57) hx hb dX5_goOn_50 (by decide) (by omega) (by omega) (fun c50 => ?_) (fun c50 => ?_)
    · skip
      refine lv_iconst (v := (nI 0)) hx hb dX5_goOn_57 (by decide) ?_
      exact rtI F hP hD hS dX5_goOn_58 (by rw [show (if cnS (lpB S) = 0 then 3 else 0) = 0 from (by first | (exfalso; omega) | ((try simp only [true_and, and_true]); (repeat (first | rw [if_pos (by omega)] | rw [if_neg (by omega)])) <;> rfl))]; first | done | exact ⟨_, _, _, _, by first | ((try simp only [true_and, and_true, rsp_0, rspL_0, bump_0]) <;> (repeat (first | rw [if_pos (by omega)] | rw [if_neg (by omega)])) <;> rfl) | (exfalso; omega), by first | ((try simp only [true_and, and_true, rsp_0, rspL_0, bump_0]) <;> (repeat (first | rw [if_pos (by omega)] | rw [if_neg (by omega)])) <;> rfl) | (exfalso; omega)⟩)
    · skip
      refine lv_iconst (v := (nI 1)) hx hb dX5_goOn_53 (by decide) ?_
      refine lv_goto (tgt := 58) hx hb dX5_goOn_54 (by decide) ?_
      exact rtI F hP hD hS dX5_goOn_58 (by rw [show (if cnS (lpB S) = 0 then 3 else 0) = 0 from (by first | (exfalso; omega) | ((try simp only [true_and, and_true]); (repeat (first | rw [if_pos (by omega)] | rw [if_neg (by omega)])) <;> rfl))]; first | done | exact ⟨_, _, _, _, by first | ((try simp only [true_and, and_true, rsp_0, rspL_0, bump_0]) <;> (repeat (first | rw [if_pos (by omega)] | rw [if_neg (by omega)])) <;> rfl) | (exfalso; omega), by first | ((try simp only [true_and, and_true, rsp_0, rspL_0, bump_0]) <;> (repeat (first | rw [if_pos (by omega)] | rw [if_neg (by omega)])) <;> rfl) | (exfalso; omega)⟩)
  · skip
    have hc0 : cnS (lpB S) = 0 := (em0 S).mp c4
    refine lv_aload_n hx hb dX5_goOn_7 rfl (lv_at hl 0 rfl) ?_
    refine lv_bipush (v := (-3)) hx hb dX5_goOn_8 (by decide) ?_
    refine cVI (As := [.int (-3)]) (rest := []) F (c_X5_no l g m0 m1 m2 m3 m4 m5 m6 m7 m8 m9 m10 m11 m12 m13 m14 kp rn tn ia wl si rf (-3) 3 (by decide) (by omega) (by omega)) kX5_no rfl gX5_goOn_X5_no rfl rfl ⟨Nat.le_of_ble_eq_true rfl, Nat.le_of_ble_eq_true rfl⟩ hP hD hS [0, 6] [1, 2, 3, 4, 5] rfl rfl 0 rfl rfl hl.1 rfl rfl (Nat.le_of_ble_eq_true rfl) dX5_goOn_10 ⟨Nat.le_of_ble_eq_true rfl, Nat.le_of_ble_eq_true rfl⟩ (fun rz w1 H locs hpo hP hD hS => ?_)
    obtain ⟨rfl, rfl⟩ := hpo
    obtain ⟨hP, hD⟩ := nx (ws' := [(m0, .inr (5, [.ref m1, .ref m2, .ref m3, .int (nI kp), .ref m4, .ref m5, .ref m6, .ref m7, .ref m8, .int (nI rn), .ref m9, .int (nI tn), .int (nI ia), .int (nI wl), .ref m10, .ref m11, .ref m12, .int (nI si), .ref m13, .ref m14])), (m2, .inl (eI g, 49, .inl (fun j => nI (S j)))), (m4, .inl (eI g, 41, .inl O)), (m5, .inl (eI g, 9, .inl (fun j => nI (Y j)))), (m6, .inl (eI g, 9, .inl (fun j => nI (Z j)))), (m7, .inl (eI g, 49, .inl (fun j => nI (M j)))), (m1, .inl (eI g, 7, .inl (bump rf 3)))]) hP hD [5, 0, 1, 2, 3, 4, 6] (ndB_ok _ rfl) rfl
    exact rtI F hP hD hS dX5_goOn_13 (by rw [show (if cnS (lpB S) = 0 then 3 else 0) = 3 from (by first | (exfalso; omega) | ((try simp only [true_and, and_true]); (repeat (first | rw [if_pos (by omega)] | rw [if_neg (by omega)])) <;> rfl))]; first | done | exact ⟨_, _, _, _, by rfl, by rfl⟩)

theorem inX4_goOnCosts_X4 : ∀ w ∈ u_ws RX4 TX4 10, w ∈ wsX4_goOnCosts := fun _ h => (List.mem_cons_of_mem _ (List.mem_append_left _ (List.mem_append_left _ (List.mem_append_left _ (List.mem_append_right _ h)))))
theorem lkX4_goOnCosts_1 : Cond.fieldLink RX4 10 "StripInFiveSteps" "now" "LStripInFiveSteps$Shed;" ∈ wsX4_goOnCosts := List.mem_of_getElem? (i := 1) rfl
theorem inX4_goOnCosts_X0 : ∀ w ∈ u_ws RX0 TX0 5, w ∈ wsX4_goOnCosts := fun _ h => (List.mem_cons_of_mem _ (List.mem_append_left _ (List.mem_append_left _ (List.mem_append_right _ h))))
theorem lkX4_goOnCosts_2 : Cond.fieldLink RX4 93 "StripInFiveSteps$Shed" "numbers" "[I" ∈ wsX4_goOnCosts := List.mem_of_getElem? (i := 2) rfl
theorem kX4_goOnCosts : Cal yX4_goOnCosts wsX4_goOnCosts cX4_goOnCosts 6 (some .long) 1 := ⟨⟨_, rfl⟩, by decide +kernel⟩
set_option maxHeartbeats 4000000 in
set_option maxRecDepth 100000 in
theorem c_X4_goOnCosts (l : Launch) (g : EE) (x0 : Nat) (h0 : Nat) (d0 : Nat) (k0 : Nat) (b0 : Nat) (a0 : Nat) (t0 : Nat) (r0 : Nat) (r1 : Nat) (ik : Nat) (rn : Nat) (h1 : Nat) (h2 : Nat) (W : Nat → Nat) (B : Nat → Nat) (sk : Nat) (ek : Nat) (tr : Nat) (a1 : Nat) (a2 : Nat) (a3 : Nat) (a4 : Nat) (a5 : Nat) (T : Nat → Int64) (ka : Nat) (Lb : Nat → Nat) (q2 : Nat → Nat) (n2 : Nat) (rf : Nat → Int32) (x : Int32) (hW : ∀ j, W j ≤ 9) (hB : okB B) (hsk : sk ≤ 3) (hek : ek ≤ 4) (hC : Cch T Lb) : CL l yX4_goOnCosts wsX4_goOnCosts ({ frames := 6, cells := 0, slots := 0, locals := 152 }) g [.ref x0, .int x] [(x0, .inr (4, [.ref h0, .ref d0, .ref k0, .int (nI ik), .ref b0, .ref a0, .ref t0, .ref r0, .int (nI rn), .ref r1])), (h0, .inr (0, [.ref h1, .ref h2, .int (nI sk), .int (nI ek), .int (nI tr)])), (h1, .inl (eI g, 41, .inl (fun j => nI (W j)))), (h2, .inl (eI g, 5, .inl (fun j => nI (B j)))), (a0, .inr (2, [.ref a1, .ref a2, .ref a3, .int (nI ka), .ref a5])), (a1, .inl (eJ g, 1476, .inr (.inl T))), (a2, .inl (eI g, 4, .inl (fun j => nI (Lb j)))), (a3, .inr (1, [.ref a4, .int (nI n2)])), (a4, .inl (eI g, 7, .inl (fun j => nI (q2 j)))), (r1, .inl (eI g, 7, .inl rf))] (fun (rz : Int64) (wz : va_W) => ∃ T9 : Nat → Int64, ∃ ka9 : Nat, ∃ Lb9 : Nat → Nat, ∃ q9 : Nat → Nat, ∃ n9 : Nat, rz = (rspL (if ¬ (x.toInt = 0 ∨ x.toInt = 1) then 2 else if cnS (lpB W) = 0 then 3 else 0) (lN (frN (B 3 * sg W 40 + fbS (tlT B sk ek) W (lpB W) (B 4) (bv (tlT B sk ek) (lpB W))) (sg W 40) (decide (x.toInt = 0))))) ∧ wz = [(x0, .inr (4, [.ref h0, .ref d0, .ref k0, .int (nI ik), .ref b0, .ref a0, .ref t0, .ref r0, .int (nI rn), .ref r1])), (h0, .inr (0, [.ref h1, .ref h2, .int (nI sk), .int (nI ek), .int (nI tr)])), (h1, .inl (eI g, 41, .inl (fun j => nI (W j)))), (h2, .inl (eI g, 5, .inl (fun j => nI (B j)))), (a0, .inr (2, [.ref a1, .ref a2, .ref a3, .int (nI ka9), .ref a5])), (a1, .inl (eJ g, 1476, .inr (.inl T9))), (a2, .inl (eI g, 4, .inl (fun j => nI (Lb9 j)))), (a3, .inr (1, [.ref a4, .int (nI n9)])), (a4, .inl (eI g, 7, .inl (fun j => nI (q9 j)))), (r1, .inl (eI g, 7, .inl (bump rf (if ¬ (x.toInt = 0 ∨ x.toInt = 1) then 2 else if cnS (lpB W) = 0 then 3 else 0))))] ∧ Cch T9 Lb9) 0 0 := by
  refine ctL (cc := cX4_goOnCosts) (maxL := 6) (ret := (some .long)) (by decide) rfl (Nat.le_of_ble_eq_true rfl) ?_
  intro p_ e_ s_ m_ bl_ mt_ cd_ A ls F hnm hP hD hS hl
  obtain ⟨hx, hb, hml, hown, hts, hK, hX, hA, hrt_, hlocks⟩ := id F
  have hl : lv_has ls 6 [(0, .ref x0), (1, .int x)] := hl
  obtain ⟨hb0, hb1, hb2, hb3, hb4, hb5⟩ := okB_b hB
  refine lv_iload_n hx hb dX4_goOnCosts_0 rfl (lv_at hl 1 rfl) ?_
  refine cSI (As := [.int x]) (rest := []) F (c_X4_isPart l g x ) kX4_isPart gX4_goOnCosts_X4_isPart rfl rfl ⟨Nat.le_of_ble_eq_true rfl, Nat.le_of_ble_eq_true rfl⟩ hP hD hS [] [0, 1, 2, 3, 4, 5, 6, 7, 8, 9] rfl rfl hl.1 rfl rfl (Nat.le_of_ble_eq_true rfl) dX4_goOnCosts_1 ⟨Nat.le_of_ble_eq_true rfl, Nat.le_of_ble_eq_true rfl⟩ (fun rz w1 H locs hpo hP hD hS => ?_)
  obtain ⟨rfl, rfl⟩ := hpo
  obtain ⟨hP, hD⟩ := nx (ws' := [(x0, .inr (4, [.ref h0, .ref d0, .ref k0, .int (nI ik), .ref b0, .ref a0, .ref t0, .ref r0, .int (nI rn), .ref r1])), (h0, .inr (0, [.ref h1, .ref h2, .int (nI sk), .int (nI ek), .int (nI tr)])), (h1, .inl (eI g, 41, .inl (fun j => nI (W j)))), (h2, .inl (eI g, 5, .inl (fun j => nI (B j)))), (a0, .inr (2, [.ref a1, .ref a2, .ref a3, .int (nI ka), .ref a5])), (a1, .inl (eJ g, 1476, .inr (.inl T))), (a2, .inl (eI g, 4, .inl (fun j => nI (Lb j)))), (a3, .inr (1, [.ref a4, .int (nI n2)])), (a4, .inl (eI g, 7, .inl (fun j => nI (q2 j)))), (r1, .inl (eI g, 7, .inl rf))]) hP hD [0, 1, 2, 3, 4, 5, 6, 7, 8, 9] (ndB_ok _ rfl) rfl
  refine bqne (tgt := 14) hx hb dX4_goOnCosts_4 (by decide) (fun c4 => ?_) (fun c4 => ?_)
  · skip
    refine lv_aload_n hx hb dX4_goOnCosts_14 rfl (lv_at hl 0 rfl) ?_
    refine xget F hP inX4_goOnCosts_X4 0 rfl rfl 0 (by decide) lkX4_goOnCosts_1 rfl dX4_goOnCosts_15 ?_
    refine cVL (As := []) (rest := []) F (c_X0_left l g h0 h1 h2 W B sk ek tr (hW)) kX0_left rfl gX4_goOnCosts_X0_left rfl rfl ⟨Nat.le_of_ble_eq_true rfl, Nat.le_of_ble_eq_true rfl⟩ hP hD hS [1, 2, 3] [0, 4, 5, 6, 7, 8, 9] rfl rfl 0 rfl rfl hl.1 rfl rfl (Nat.le_of_ble_eq_true rfl) dX4_goOnCosts_18 ⟨Nat.le_of_ble_eq_true rfl, Nat.le_of_ble_eq_true rfl⟩ (fun rz w1 H locs hpo hP hD hS => ?_)
    obtain ⟨rfl, rfl⟩ := hpo
    obtain ⟨hP, hD⟩ := nx (ws' := [(x0, .inr (4, [.ref h0, .ref d0, .ref k0, .int (nI ik), .ref b0, .ref a0, .ref t0, .ref r0, .int (nI rn), .ref r1])), (h0, .inr (0, [.ref h1, .ref h2, .int (nI sk), .int (nI ek), .int (nI tr)])), (h1, .inl (eI g, 41, .inl (fun j => nI (W j)))), (h2, .inl (eI g, 5, .inl (fun j => nI (B j)))), (a0, .inr (2, [.ref a1, .ref a2, .ref a3, .int (nI ka), .ref a5])), (a1, .inl (eJ g, 1476, .inr (.inl T))), (a2, .inl (eI g, 4, .inl (fun j => nI (Lb j)))), (a3, .inr (1, [.ref a4, .int (nI n2)])), (a4, .inl (eI g, 7, .inl (fun j => nI (q2 j)))), (r1, .inl (eI g, 7, .inl rf))]) hP hD [0, 7, 8, 9, 1, 2, 3, 4, 5, 6] (ndB_ok _ rfl) rfl
    refine lv_lstore_n (lv' := [(2, .long (lfM W)), (0, .ref x0), (1, .int x)]) hx hb dX4_goOnCosts_21 rfl hl (by decide) rfl (fun ls hl => ?_)
    refine lv_lload_n hx hb dX4_goOnCosts_22 rfl (lv_at hl 0 rfl) ?_
    refine lv_lconst (v := lN 0) hx hb dX4_goOnCosts_23 rfl ?_
    refine jne (tgt := 35) hx hb dX4_goOnCosts_24 dX4_goOnCosts_25 (by decide) (fun c25 => ?_) (fun c25 => ?_)
    · skip
      have hc0 : ¬ cnS (lpB W) = 0 := fun z => c25 ((lf0 W).mpr z)
      refine lv_aload_n hx hb dX4_goOnCosts_35 rfl (lv_at hl 1 rfl) ?_
      refine xget F hP inX4_goOnCosts_X4 0 rfl rfl 0 (by decide) lkX4_goOnCosts_1 rfl dX4_goOnCosts_36 ?_
      refine lv_lload_n hx hb dX4_goOnCosts_39 rfl (lv_at hl 0 rfl) ?_
      refine cVI (As := [.long (lfM W)]) (rest := []) F (c_X0_weightOf l g h0 h1 h2 W B sk ek tr (lfM W) ) kX0_weightOf rfl gX4_goOnCosts_X0_weightOf rfl rfl ⟨Nat.le_of_ble_eq_true rfl, Nat.le_of_ble_eq_true rfl⟩ hP hD hS [1, 2, 3] [0, 4, 5, 6, 7, 8, 9] rfl rfl 0 rfl rfl hl.1 rfl rfl (Nat.le_of_ble_eq_true rfl) dX4_goOnCosts_40 ⟨Nat.le_of_ble_eq_true rfl, Nat.le_of_ble_eq_true rfl⟩ (fun rz w1 H locs hpo hP hD hS => ?_)
      obtain ⟨rfl, rfl⟩ := hpo
      obtain ⟨hP, hD⟩ := nx (ws' := [(x0, .inr (4, [.ref h0, .ref d0, .ref k0, .int (nI ik), .ref b0, .ref a0, .ref t0, .ref r0, .int (nI rn), .ref r1])), (h0, .inr (0, [.ref h1, .ref h2, .int (nI sk), .int (nI ek), .int (nI tr)])), (h1, .inl (eI g, 41, .inl (fun j => nI (W j)))), (h2, .inl (eI g, 5, .inl (fun j => nI (B j)))), (a0, .inr (2, [.ref a1, .ref a2, .ref a3, .int (nI ka), .ref a5])), (a1, .inl (eJ g, 1476, .inr (.inl T))), (a2, .inl (eI g, 4, .inl (fun j => nI (Lb j)))), (a3, .inr (1, [.ref a4, .int (nI n2)])), (a4, .inl (eI g, 7, .inl (fun j => nI (q2 j)))), (r1, .inl (eI g, 7, .inl rf))]) hP hD [0, 7, 8, 9, 1, 2, 3, 4, 5, 6] (ndB_ok _ rfl) rfl
      refine sti (congrArg nI (show wtS W (bitL (lfM W)) = sg W 40 from by rw [bitL_lfM, wtS_lp])) ?_
      refine lv_i2l (v := lN (sg W 40)) hx hb dX4_goOnCosts_43 (nI_l (by have := sgW_b (W := W) (fun j _ => hW j); omega)) ?_
      refine lv_lstore (lv' := [(4, .long (lN (sg W 40))), (2, .long (lfM W)), (0, .ref x0), (1, .int x)]) hx hb dX4_goOnCosts_44 hl (by decide) rfl (fun ls hl => ?_)
      refine lv_aload_n hx hb dX4_goOnCosts_46 rfl (lv_at hl 2 rfl) ?_
      refine xget F hP inX4_goOnCosts_X4 0 rfl rfl 0 (by decide) lkX4_goOnCosts_1 rfl dX4_goOnCosts_47 ?_
      refine xget F hP inX4_goOnCosts_X0 1 rfl rfl 1 (by decide) lkX4_goOnCosts_2 rfl dX4_goOnCosts_50 ?_
      refine lv_iconst (v := (nI 3)) hx hb dX4_goOnCosts_53 (by decide) ?_
      refine xald F hP 3 (v := (nI (B 3))) rfl (by omega) (by omega) rfl dX4_goOnCosts_54 ?_
      refine lv_i2l (v := lN (B 3)) hx hb dX4_goOnCosts_55 (nI_l (by omega)) ?_
      refine lv_lload hx hb dX4_goOnCosts_56 (lv_at hl 0 rfl) ?_
      refine xlmul hx hb dX4_goOnCosts_58 ?_
      refine lv_aload_n hx hb dX4_goOnCosts_59 rfl (lv_at hl 2 rfl) ?_
      refine lv_lload_n hx hb dX4_goOnCosts_60 rfl (lv_at hl 1 rfl) ?_
      refine cVL (As := [.long (lfM W)]) (rest := [.long (lN ((B 3) * (sg W 40)))]) F (c_X4_faultsBehindStrip l g x0 h0 d0 k0 b0 a0 t0 r0 r1 ik rn h1 h2 W B sk ek tr a1 a2 a3 a4 a5 T ka Lb q2 n2 (lfM W) (hC) (hB) (hek) (hsk) (inS_lf W) (hW)) kX4_faultsBehindStrip rfl gX4_goOnCosts_X4_faultsBehindStrip rfl rfl ⟨Nat.le_of_ble_eq_true rfl, Nat.le_of_ble_eq_true rfl⟩ hP hD hS [0, 1, 2, 3, 4, 5, 6, 7, 8] [9] rfl rfl 0 rfl rfl hl.1 rfl rfl (Nat.le_of_ble_eq_true rfl) dX4_goOnCosts_61 ⟨Nat.le_of_ble_eq_true rfl, Nat.le_of_ble_eq_true rfl⟩ (fun rz w1 H locs hpo hP hD hS => ?_)
      obtain ⟨T9_4, Lb9_4, q9_4, n9_4, rfl, rfl, hpo4⟩ := hpo
      obtain ⟨hP, hD⟩ := nx (ws' := [(x0, .inr (4, [.ref h0, .ref d0, .ref k0, .int (nI ik), .ref b0, .ref a0, .ref t0, .ref r0, .int (nI rn), .ref r1])), (h0, .inr (0, [.ref h1, .ref h2, .int (nI sk), .int (nI ek), .int (nI tr)])), (h1, .inl (eI g, 41, .inl (fun j => nI (W j)))), (h2, .inl (eI g, 5, .inl (fun j => nI (B j)))), (a0, .inr (2, [.ref a1, .ref a2, .ref a3, .int (nI (sk * 369)), .ref a5])), (a1, .inl (eJ g, 1476, .inr (.inl T9_4))), (a2, .inl (eI g, 4, .inl (fun j => nI (Lb9_4 j)))), (a3, .inr (1, [.ref a4, .int (nI n9_4)])), (a4, .inl (eI g, 7, .inl (fun j => nI (q9_4 j)))), (r1, .inl (eI g, 7, .inl rf))]) hP hD [1, 2, 3, 4, 5, 6, 7, 8, 9, 0] (ndB_ok _ rfl) rfl
      have hC9 := hpo4
      refine stl (congrArg lN (show fbS (tlT B sk ek) W (bitL (lfM W)) (B 4) (bv (tlT B sk ek) (bitL (lfM W))) = fbS (tlT B sk ek) W (lpB W) (B 4) (bv (tlT B sk ek) (lpB W)) from by rw [bitL_lfM])) ?_
      have hbA := mul_le_c (show B 3 ≤ 99 by omega) (sgW_b (W := W) (fun j _ => hW j))
      have hbF := fbS_b (t := (tlT B sk ek)) (p := lpB W) (v := bv (tlT B sk ek) (lpB W)) hW (show B 4 ≤ 99 by omega)
      have hbL := faS_b (p := lpB W) hW (giS_in W (lpB W) (B 4)).2 (show B 4 ≤ 99 by omega)
      have hbW := sgW_b (W := W) (fun j _ => hW j)
      refine xladd hx hb dX4_goOnCosts_64 ?_
      refine lv_lload hx hb dX4_goOnCosts_65 (lv_at hl 0 rfl) ?_
      refine lv_iload_n hx hb dX4_goOnCosts_67 rfl (lv_at hl 3 rfl) ?_
      refine cSL (As := [.long (lN (((B 3) * (sg W 40)) + (fbS (tlT B sk ek) W (lpB W) (B 4) (bv (tlT B sk ek) (lpB W))))), .long (lN (sg W 40)), .int x]) (rest := []) F (c_X4_fraction l g (((B 3) * (sg W 40)) + (fbS (tlT B sk ek) W (lpB W) (B 4) (bv (tlT B sk ek) (lpB W)))) (sg W 40) x (by omega) (by omega)) kX4_fraction gX4_goOnCosts_X4_fraction rfl rfl ⟨Nat.le_of_ble_eq_true rfl, Nat.le_of_ble_eq_true rfl⟩ hP hD hS [] [0, 1, 2, 3, 4, 5, 6, 7, 8, 9] rfl rfl hl.1 rfl rfl (Nat.le_of_ble_eq_true rfl) dX4_goOnCosts_68 ⟨Nat.le_of_ble_eq_true rfl, Nat.le_of_ble_eq_true rfl⟩ (fun rz w1 H locs hpo hP hD hS => ?_)
      obtain ⟨rfl, rfl⟩ := hpo
      obtain ⟨hP, hD⟩ := nx (ws' := [(x0, .inr (4, [.ref h0, .ref d0, .ref k0, .int (nI ik), .ref b0, .ref a0, .ref t0, .ref r0, .int (nI rn), .ref r1])), (h0, .inr (0, [.ref h1, .ref h2, .int (nI sk), .int (nI ek), .int (nI tr)])), (h1, .inl (eI g, 41, .inl (fun j => nI (W j)))), (h2, .inl (eI g, 5, .inl (fun j => nI (B j)))), (a0, .inr (2, [.ref a1, .ref a2, .ref a3, .int (nI (sk * 369)), .ref a5])), (a1, .inl (eJ g, 1476, .inr (.inl T9_4))), (a2, .inl (eI g, 4, .inl (fun j => nI (Lb9_4 j)))), (a3, .inr (1, [.ref a4, .int (nI n9_4)])), (a4, .inl (eI g, 7, .inl (fun j => nI (q9_4 j)))), (r1, .inl (eI g, 7, .inl rf))]) hP hD [0, 1, 2, 3, 4, 5, 6, 7, 8, 9] (ndB_ok _ rfl) rfl
      exact rtL F hP hD hS dX4_goOnCosts_71 (by rw [show (if ¬ (x.toInt = 0 ∨ x.toInt = 1) then 2 else if cnS (lpB W) = 0 then 3 else 0) = 0 from (by first | (exfalso; omega) | ((try simp only [true_and, and_true]); (repeat (first | rw [if_pos (by omega)] | rw [if_neg (by omega)])) <;> rfl))]; first | done | exact ⟨_, _, _, _, _, by first | ((try simp only [true_and, and_true, rsp_0, rspL_0, bump_0]) <;> (repeat (first | rw [if_pos (by omega)] | rw [if_neg (by omega)])) <;> rfl) | (exfalso; omega), by first | ((try simp only [true_and, and_true, rsp_0, rspL_0, bump_0]) <;> (repeat (first | rw [if_pos (by omega)] | rw [if_neg (by omega)])) <;> rfl) | (exfalso; omega), hC9⟩)
    · skip
      have hc0 : cnS (lpB W) = 0 := (lf0 W).mp c25
      refine lv_aload_n hx hb dX4_goOnCosts_28 rfl (lv_at hl 1 rfl) ?_
      refine lv_bipush (v := (-3)) hx hb dX4_goOnCosts_29 (by decide) ?_
      refine cVL (As := [.int (-3)]) (rest := []) F (c_X4_refuseLong l g x0 h0 d0 k0 b0 a0 t0 r0 r1 ik rn rf (-3) 3 (by decide) (by omega) (by omega)) kX4_refuseLong rfl gX4_goOnCosts_X4_refuseLong rfl rfl ⟨Nat.le_of_ble_eq_true rfl, Nat.le_of_ble_eq_true rfl⟩ hP hD hS [0, 9] [1, 2, 3, 4, 5, 6, 7, 8] rfl rfl 0 rfl rfl hl.1 rfl rfl (Nat.le_of_ble_eq_true rfl) dX4_goOnCosts_31 ⟨Nat.le_of_ble_eq_true rfl, Nat.le_of_ble_eq_true rfl⟩ (fun rz w1 H locs hpo hP hD hS => ?_)
      obtain ⟨rfl, rfl⟩ := hpo
      obtain ⟨hP, hD⟩ := nx (ws' := [(x0, .inr (4, [.ref h0, .ref d0, .ref k0, .int (nI ik), .ref b0, .ref a0, .ref t0, .ref r0, .int (nI rn), .ref r1])), (h0, .inr (0, [.ref h1, .ref h2, .int (nI sk), .int (nI ek), .int (nI tr)])), (h1, .inl (eI g, 41, .inl (fun j => nI (W j)))), (h2, .inl (eI g, 5, .inl (fun j => nI (B j)))), (a0, .inr (2, [.ref a1, .ref a2, .ref a3, .int (nI ka), .ref a5])), (a1, .inl (eJ g, 1476, .inr (.inl T))), (a2, .inl (eI g, 4, .inl (fun j => nI (Lb j)))), (a3, .inr (1, [.ref a4, .int (nI n2)])), (a4, .inl (eI g, 7, .inl (fun j => nI (q2 j)))), (r1, .inl (eI g, 7, .inl (bump rf 3)))]) hP hD [8, 0, 1, 2, 3, 4, 5, 6, 7, 9] (ndB_ok _ rfl) rfl
      exact rtL F hP hD hS dX4_goOnCosts_34 (by rw [show (if ¬ (x.toInt = 0 ∨ x.toInt = 1) then 2 else if cnS (lpB W) = 0 then 3 else 0) = 3 from (by first | (exfalso; omega) | ((try simp only [true_and, and_true]); (repeat (first | rw [if_pos (by omega)] | rw [if_neg (by omega)])) <;> rfl))]; first | done | exact ⟨T, ka, Lb, q2, n2, by rfl, by rfl, hC⟩)
  · skip
    refine lv_aload_n hx hb dX4_goOnCosts_7 rfl (lv_at hl 0 rfl) ?_
    refine lv_bipush (v := (-2)) hx hb dX4_goOnCosts_8 (by decide) ?_
    refine cVL (As := [.int (-2)]) (rest := []) F (c_X4_refuseLong l g x0 h0 d0 k0 b0 a0 t0 r0 r1 ik rn rf (-2) 2 (by decide) (by omega) (by omega)) kX4_refuseLong rfl gX4_goOnCosts_X4_refuseLong rfl rfl ⟨Nat.le_of_ble_eq_true rfl, Nat.le_of_ble_eq_true rfl⟩ hP hD hS [0, 9] [1, 2, 3, 4, 5, 6, 7, 8] rfl rfl 0 rfl rfl hl.1 rfl rfl (Nat.le_of_ble_eq_true rfl) dX4_goOnCosts_10 ⟨Nat.le_of_ble_eq_true rfl, Nat.le_of_ble_eq_true rfl⟩ (fun rz w1 H locs hpo hP hD hS => ?_)
    obtain ⟨rfl, rfl⟩ := hpo
    obtain ⟨hP, hD⟩ := nx (ws' := [(x0, .inr (4, [.ref h0, .ref d0, .ref k0, .int (nI ik), .ref b0, .ref a0, .ref t0, .ref r0, .int (nI rn), .ref r1])), (h0, .inr (0, [.ref h1, .ref h2, .int (nI sk), .int (nI ek), .int (nI tr)])), (h1, .inl (eI g, 41, .inl (fun j => nI (W j)))), (h2, .inl (eI g, 5, .inl (fun j => nI (B j)))), (a0, .inr (2, [.ref a1, .ref a2, .ref a3, .int (nI ka), .ref a5])), (a1, .inl (eJ g, 1476, .inr (.inl T))), (a2, .inl (eI g, 4, .inl (fun j => nI (Lb j)))), (a3, .inr (1, [.ref a4, .int (nI n2)])), (a4, .inl (eI g, 7, .inl (fun j => nI (q2 j)))), (r1, .inl (eI g, 7, .inl (bump rf 2)))]) hP hD [8, 0, 1, 2, 3, 4, 5, 6, 7, 9] (ndB_ok _ rfl) rfl
    exact rtL F hP hD hS dX4_goOnCosts_13 (by rw [show (if ¬ (x.toInt = 0 ∨ x.toInt = 1) then 2 else if cnS (lpB W) = 0 then 3 else 0) = 2 from (by first | (exfalso; omega) | ((try simp only [true_and, and_true]); (repeat (first | rw [if_pos (by omega)] | rw [if_neg (by omega)])) <;> rfl))]; first | done | exact ⟨T, ka, Lb, q2, n2, by rfl, by rfl, hC⟩)

theorem inX5_goOnCosts_X5 : ∀ w ∈ u_ws RX5 TX5 20, w ∈ wsX5_goOnCosts := fun _ h => (List.mem_cons_of_mem _ (List.mem_append_right _ h))
theorem lkX5_goOnCosts_1 : Cond.fieldLink RX5 19 "StripInFiveStepsModel" "now" "[I" ∈ wsX5_goOnCosts := List.mem_of_getElem? (i := 1) rfl
theorem kX5_goOnCosts : Cal yX5_goOnCosts wsX5_goOnCosts cX5_goOnCosts 2 (some .long) 1 := ⟨⟨_, rfl⟩, by decide +kernel⟩
set_option maxHeartbeats 4000000 in
set_option maxRecDepth 100000 in
theorem c_X5_goOnCosts (l : Launch) (g : EE) (m0 : Nat) (m1 : Nat) (m2 : Nat) (m3 : Nat) (m4 : Nat) (m5 : Nat) (m6 : Nat) (m7 : Nat) (m8 : Nat) (m9 : Nat) (m10 : Nat) (m11 : Nat) (m12 : Nat) (m13 : Nat) (m14 : Nat) (kp : Nat) (rn : Nat) (tn : Nat) (ia : Nat) (wl : Nat) (si : Nat) (S : Nat → Nat) (O : Nat → Int32) (Y : Nat → Nat) (Z : Nat → Nat) (M : Nat → Nat) (rf : Nat → Int32) (x : Int32) (hO : okS S) : CL l yX5_goOnCosts wsX5_goOnCosts ({ frames := 9, cells := 0, slots := 0, locals := 209 }) g [.ref m0, .int x] [(m0, .inr (5, [.ref m1, .ref m2, .ref m3, .int (nI kp), .ref m4, .ref m5, .ref m6, .ref m7, .ref m8, .int (nI rn), .ref m9, .int (nI tn), .int (nI ia), .int (nI wl), .ref m10, .ref m11, .ref m12, .int (nI si), .ref m13, .ref m14])), (m2, .inl (eI g, 49, .inl (fun j => nI (S j)))), (m4, .inl (eI g, 41, .inl O)), (m5, .inl (eI g, 9, .inl (fun j => nI (Y j)))), (m6, .inl (eI g, 9, .inl (fun j => nI (Z j)))), (m7, .inl (eI g, 49, .inl (fun j => nI (M j)))), (m1, .inl (eI g, 7, .inl rf))] (fun (rz : Int64) (wz : va_W) => ∃ O9 : Nat → Int32, ∃ Y9 : Nat → Nat, ∃ Z9 : Nat → Nat, ∃ M9 : Nat → Nat, rz = (rspL (if ¬ (x.toInt = 0 ∨ x.toInt = 1) then 2 else if cnS (lpB S) = 0 then 3 else 0) (lN (frN (S 44 * sg S 40 + fbS (tlS S) S (lpB S) (S 45) (bv (tlS S) (lpB S))) (sg S 40) (decide (x.toInt = 0))))) ∧ wz = [(m0, .inr (5, [.ref m1, .ref m2, .ref m3, .int (nI kp), .ref m4, .ref m5, .ref m6, .ref m7, .ref m8, .int (nI rn), .ref m9, .int (nI tn), .int (nI ia), .int (nI wl), .ref m10, .ref m11, .ref m12, .int (nI si), .ref m13, .ref m14])), (m2, .inl (eI g, 49, .inl (fun j => nI (S j)))), (m4, .inl (eI g, 41, .inl O9)), (m5, .inl (eI g, 9, .inl (fun j => nI (Y9 j)))), (m6, .inl (eI g, 9, .inl (fun j => nI (Z9 j)))), (m7, .inl (eI g, 49, .inl (fun j => nI (M9 j)))), (m1, .inl (eI g, 7, .inl (bump rf (if ¬ (x.toInt = 0 ∨ x.toInt = 1) then 2 else if cnS (lpB S) = 0 then 3 else 0))))]) 0 0 := by
  refine ctL (cc := cX5_goOnCosts) (maxL := 2) (ret := (some .long)) (by decide) rfl (Nat.le_of_ble_eq_true rfl) ?_
  intro p_ e_ s_ m_ bl_ mt_ cd_ A ls F hnm hP hD hS hl
  obtain ⟨hx, hb, hml, hown, hts, hK, hX, hA, hrt_, hlocks⟩ := id F
  have hl : lv_has ls 2 [(0, .ref m0), (1, .int x)] := hl
  obtain ⟨hw40, ⟨h41a, h41b⟩, ⟨h42a, h42b⟩, h43, h44, h45, h46, h47, h48⟩ := id hO
  refine lv_iload_n hx hb dX5_goOnCosts_0 rfl (lv_at hl 1 rfl) ?_
  refine cSI (As := [.int x]) (rest := []) F (c_X5_isNoPart l g x ) kX5_isNoPart gX5_goOnCosts_X5_isNoPart rfl rfl ⟨Nat.le_of_ble_eq_true rfl, Nat.le_of_ble_eq_true rfl⟩ hP hD hS [] [0, 1, 2, 3, 4, 5, 6] rfl rfl hl.1 rfl rfl (Nat.le_of_ble_eq_true rfl) dX5_goOnCosts_1 ⟨Nat.le_of_ble_eq_true rfl, Nat.le_of_ble_eq_true rfl⟩ (fun rz w1 H locs hpo hP hD hS => ?_)
  obtain ⟨rfl, rfl⟩ := hpo
  obtain ⟨hP, hD⟩ := nx (ws' := [(m0, .inr (5, [.ref m1, .ref m2, .ref m3, .int (nI kp), .ref m4, .ref m5, .ref m6, .ref m7, .ref m8, .int (nI rn), .ref m9, .int (nI tn), .int (nI ia), .int (nI wl), .ref m10, .ref m11, .ref m12, .int (nI si), .ref m13, .ref m14])), (m2, .inl (eI g, 49, .inl (fun j => nI (S j)))), (m4, .inl (eI g, 41, .inl O)), (m5, .inl (eI g, 9, .inl (fun j => nI (Y j)))), (m6, .inl (eI g, 9, .inl (fun j => nI (Z j)))), (m7, .inl (eI g, 49, .inl (fun j => nI (M j)))), (m1, .inl (eI g, 7, .inl rf))]) hP hD [0, 1, 2, 3, 4, 5, 6] (ndB_ok _ rfl) rfl
  refine bqeq (tgt := 14) hx hb dX5_goOnCosts_4 (by decide) (fun c4 => ?_) (fun c4 => ?_)
  · skip
    refine lv_aload_n hx hb dX5_goOnCosts_14 rfl (lv_at hl 0 rfl) ?_
    refine cVI (As := []) (rest := []) F (c_X5_isEmpty l g m0 m1 m2 m3 m4 m5 m6 m7 m8 m9 m10 m11 m12 m13 m14 kp rn tn ia wl si S (hO)) kX5_isEmpty rfl gX5_goOnCosts_X5_isEmpty rfl rfl ⟨Nat.le_of_ble_eq_true rfl, Nat.le_of_ble_eq_true rfl⟩ hP hD hS [0, 1] [2, 3, 4, 5, 6] rfl rfl 0 rfl rfl hl.1 rfl rfl (Nat.le_of_ble_eq_true rfl) dX5_goOnCosts_15 ⟨Nat.le_of_ble_eq_true rfl, Nat.le_of_ble_eq_true rfl⟩ (fun rz w1 H locs hpo hP hD hS => ?_)
    obtain ⟨rfl, rfl⟩ := hpo
    obtain ⟨hP, hD⟩ := nx (ws' := [(m0, .inr (5, [.ref m1, .ref m2, .ref m3, .int (nI kp), .ref m4, .ref m5, .ref m6, .ref m7, .ref m8, .int (nI rn), .ref m9, .int (nI tn), .int (nI ia), .int (nI wl), .ref m10, .ref m11, .ref m12, .int (nI si), .ref m13, .ref m14])), (m2, .inl (eI g, 49, .inl (fun j => nI (S j)))), (m4, .inl (eI g, 41, .inl O)), (m5, .inl (eI g, 9, .inl (fun j => nI (Y j)))), (m6, .inl (eI g, 9, .inl (fun j => nI (Z j)))), (m7, .inl (eI g, 49, .inl (fun j => nI (M j)))), (m1, .inl (eI g, 7, .inl rf))]) hP hD [5, 6, 0, 1, 2, 3, 4] (ndB_ok _ rfl) rfl
    refine bqeq (tgt := 28) hx hb dX5_goOnCosts_18 (by decide) (fun c18 => ?_) (fun c18 => ?_)
    · skip
      have hc0 : ¬ cnS (lpB S) = 0 := fun z => c18 ((em0 S).mpr z)
      refine lv_aload_n hx hb dX5_goOnCosts_28 rfl (lv_at hl 0 rfl) ?_
      refine xget F hP inX5_goOnCosts_X5 0 rfl rfl 1 (by decide) lkX5_goOnCosts_1 rfl dX5_goOnCosts_29 ?_
      refine lv_bipush (v := (nI 44)) hx hb dX5_goOnCosts_32 (by decide) ?_
      refine xald F hP 1 (v := (nI (S 44))) rfl (by omega) (by omega) rfl dX5_goOnCosts_34 ?_
      refine lv_aload_n hx hb dX5_goOnCosts_35 rfl (lv_at hl 0 rfl) ?_
      refine xget F hP inX5_goOnCosts_X5 0 rfl rfl 1 (by decide) lkX5_goOnCosts_1 rfl dX5_goOnCosts_36 ?_
      refine cSI (As := [.ref m2]) (rest := [.int (nI (S 44))]) F (c_X5_weight l g m2 S ) kX5_weight gX5_goOnCosts_X5_weight rfl rfl ⟨Nat.le_of_ble_eq_true rfl, Nat.le_of_ble_eq_true rfl⟩ hP hD hS [1] [0, 2, 3, 4, 5, 6] rfl rfl hl.1 rfl rfl (Nat.le_of_ble_eq_true rfl) dX5_goOnCosts_39 ⟨Nat.le_of_ble_eq_true rfl, Nat.le_of_ble_eq_true rfl⟩ (fun rz w1 H locs hpo hP hD hS => ?_)
      obtain ⟨rfl, rfl⟩ := hpo
      obtain ⟨hP, hD⟩ := nx (ws' := [(m0, .inr (5, [.ref m1, .ref m2, .ref m3, .int (nI kp), .ref m4, .ref m5, .ref m6, .ref m7, .ref m8, .int (nI rn), .ref m9, .int (nI tn), .int (nI ia), .int (nI wl), .ref m10, .ref m11, .ref m12, .int (nI si), .ref m13, .ref m14])), (m2, .inl (eI g, 49, .inl (fun j => nI (S j)))), (m4, .inl (eI g, 41, .inl O)), (m5, .inl (eI g, 9, .inl (fun j => nI (Y j)))), (m6, .inl (eI g, 9, .inl (fun j => nI (Z j)))), (m7, .inl (eI g, 49, .inl (fun j => nI (M j)))), (m1, .inl (eI g, 7, .inl rf))]) hP hD [0, 6, 1, 2, 3, 4, 5] (ndB_ok _ rfl) rfl
      refine xmul hx hb dX5_goOnCosts_42 ?_
      refine lv_aload_n hx hb dX5_goOnCosts_43 rfl (lv_at hl 0 rfl) ?_
      refine cVI (As := []) (rest := [.int (nI ((S 44) * (sg S 40)))]) F (c_X5_faultsBehind l g m0 m1 m2 m3 m4 m5 m6 m7 m8 m9 m10 m11 m12 m13 m14 kp rn tn ia wl si S O Y Z M (hO)) kX5_faultsBehind rfl gX5_goOnCosts_X5_faultsBehind rfl rfl ⟨Nat.le_of_ble_eq_true rfl, Nat.le_of_ble_eq_true rfl⟩ hP hD hS [0, 1, 2, 3, 4, 5] [6] rfl rfl 0 rfl rfl hl.1 rfl rfl (Nat.le_of_ble_eq_true rfl) dX5_goOnCosts_44 ⟨Nat.le_of_ble_eq_true rfl, Nat.le_of_ble_eq_true rfl⟩ (fun rz w1 H locs hpo hP hD hS => ?_)
      obtain ⟨O9_4, Y9_4, Z9_4, M9_4, rfl, rfl⟩ := hpo
      obtain ⟨hP, hD⟩ := nx (ws' := [(m0, .inr (5, [.ref m1, .ref m2, .ref m3, .int (nI kp), .ref m4, .ref m5, .ref m6, .ref m7, .ref m8, .int (nI rn), .ref m9, .int (nI tn), .int (nI ia), .int (nI wl), .ref m10, .ref m11, .ref m12, .int (nI si), .ref m13, .ref m14])), (m2, .inl (eI g, 49, .inl (fun j => nI (S j)))), (m4, .inl (eI g, 41, .inl O9_4)), (m5, .inl (eI g, 9, .inl (fun j => nI (Y9_4 j)))), (m6, .inl (eI g, 9, .inl (fun j => nI (Z9_4 j)))), (m7, .inl (eI g, 49, .inl (fun j => nI (M9_4 j)))), (m1, .inl (eI g, 7, .inl rf))]) hP hD [1, 2, 3, 4, 5, 6, 0] (ndB_ok _ rfl) rfl
      refine xadd hx hb dX5_goOnCosts_47 ?_
      have hbA := mul_le_c h44 (sgW_b hO.1)
      have hbF := fbS_b2 (t := tlS S) (p := lpB S) (v := bv (tlS S) (lpB S)) hO.1 h45
      have hbW := sgW_b hO.1
      refine lv_i2l (v := lN (((S 44) * (sg S 40)) + (fbS (tlS S) S (lpB S) (S 45) (bv (tlS S) (lpB S))))) hx hb dX5_goOnCosts_48 (nI_l (by omega)) ?_
      refine lv_aload_n hx hb dX5_goOnCosts_49 rfl (lv_at hl 0 rfl) ?_
      refine xget F hP inX5_goOnCosts_X5 0 rfl rfl 1 (by decide) lkX5_goOnCosts_1 rfl dX5_goOnCosts_50 ?_
      refine cSI (As := [.ref m2]) (rest := [.long (lN (((S 44) * (sg S 40)) + (fbS (tlS S) S (lpB S) (S 45) (bv (tlS S) (lpB S)))))]) F (c_X5_weight l g m2 S ) kX5_weight gX5_goOnCosts_X5_weight rfl rfl ⟨Nat.le_of_ble_eq_true rfl, Nat.le_of_ble_eq_true rfl⟩ hP hD hS [1] [0, 2, 3, 4, 5, 6] rfl rfl hl.1 rfl rfl (Nat.le_of_ble_eq_true rfl) dX5_goOnCosts_53 ⟨Nat.le_of_ble_eq_true rfl, Nat.le_of_ble_eq_true rfl⟩ (fun rz w1 H locs hpo hP hD hS => ?_)
      obtain ⟨rfl, rfl⟩ := hpo
      obtain ⟨hP, hD⟩ := nx (ws' := [(m0, .inr (5, [.ref m1, .ref m2, .ref m3, .int (nI kp), .ref m4, .ref m5, .ref m6, .ref m7, .ref m8, .int (nI rn), .ref m9, .int (nI tn), .int (nI ia), .int (nI wl), .ref m10, .ref m11, .ref m12, .int (nI si), .ref m13, .ref m14])), (m2, .inl (eI g, 49, .inl (fun j => nI (S j)))), (m4, .inl (eI g, 41, .inl O9_4)), (m5, .inl (eI g, 9, .inl (fun j => nI (Y9_4 j)))), (m6, .inl (eI g, 9, .inl (fun j => nI (Z9_4 j)))), (m7, .inl (eI g, 49, .inl (fun j => nI (M9_4 j)))), (m1, .inl (eI g, 7, .inl rf))]) hP hD [0, 6, 1, 2, 3, 4, 5] (ndB_ok _ rfl) rfl
      refine lv_i2l (v := lN (sg S 40)) hx hb dX5_goOnCosts_56 (nI_l (by omega)) ?_
      refine lv_iload_n hx hb dX5_goOnCosts_57 rfl (lv_at hl 1 rfl) ?_
      refine cSL (As := [.long (lN (((S 44) * (sg S 40)) + (fbS (tlS S) S (lpB S) (S 45) (bv (tlS S) (lpB S))))), .long (lN (sg S 40)), .int x]) (rest := []) F (c_X5_fraction l g (((S 44) * (sg S 40)) + (fbS (tlS S) S (lpB S) (S 45) (bv (tlS S) (lpB S)))) (sg S 40) x (by omega) (by omega) (fun z => absurd ((em0 S).mp z) hc0) (by omega)) kX5_fraction gX5_goOnCosts_X5_fraction rfl rfl ⟨Nat.le_of_ble_eq_true rfl, Nat.le_of_ble_eq_true rfl⟩ hP hD hS [] [0, 1, 2, 3, 4, 5, 6] rfl rfl hl.1 rfl rfl (Nat.le_of_ble_eq_true rfl) dX5_goOnCosts_58 ⟨Nat.le_of_ble_eq_true rfl, Nat.le_of_ble_eq_true rfl⟩ (fun rz w1 H locs hpo hP hD hS => ?_)
      obtain ⟨rfl, rfl⟩ := hpo
      obtain ⟨hP, hD⟩ := nx (ws' := [(m0, .inr (5, [.ref m1, .ref m2, .ref m3, .int (nI kp), .ref m4, .ref m5, .ref m6, .ref m7, .ref m8, .int (nI rn), .ref m9, .int (nI tn), .int (nI ia), .int (nI wl), .ref m10, .ref m11, .ref m12, .int (nI si), .ref m13, .ref m14])), (m2, .inl (eI g, 49, .inl (fun j => nI (S j)))), (m4, .inl (eI g, 41, .inl O9_4)), (m5, .inl (eI g, 9, .inl (fun j => nI (Y9_4 j)))), (m6, .inl (eI g, 9, .inl (fun j => nI (Z9_4 j)))), (m7, .inl (eI g, 49, .inl (fun j => nI (M9_4 j)))), (m1, .inl (eI g, 7, .inl rf))]) hP hD [0, 1, 2, 3, 4, 5, 6] (ndB_ok _ rfl) rfl
      exact rtL F hP hD hS dX5_goOnCosts_61 (by rw [show (if ¬ (x.toInt = 0 ∨ x.toInt = 1) then 2 else if cnS (lpB S) = 0 then 3 else 0) = 0 from (by first | (exfalso; omega) | ((try simp only [true_and, and_true]); (repeat (first | rw [if_pos (by omega)] | rw [if_neg (by omega)])) <;> rfl))]; first | done | exact ⟨_, _, _, _, by first | ((try simp only [true_and, and_true, rsp_0, rspL_0, bump_0]) <;> (repeat (first | rw [if_pos (by omega)] | rw [if_neg (by omega)])) <;> rfl) | (exfalso; omega), by first | ((try simp only [true_and, and_true, rsp_0, rspL_0, bump_0]) <;> (repeat (first | rw [if_pos (by omega)] | rw [if_neg (by omega)])) <;> rfl) | (exfalso; omega)⟩)
    · skip
      have hc0 : cnS (lpB S) = 0 := (em0 S).mp c18
      refine lv_aload_n hx hb dX5_goOnCosts_21 rfl (lv_at hl 0 rfl) ?_
      refine lv_bipush (v := (-3)) hx hb dX5_goOnCosts_22 (by decide) ?_
      refine cVL (As := [.int (-3)]) (rest := []) F (c_X5_noLong l g m0 m1 m2 m3 m4 m5 m6 m7 m8 m9 m10 m11 m12 m13 m14 kp rn tn ia wl si rf (-3) 3 (by decide) (by omega) (by omega)) kX5_noLong rfl gX5_goOnCosts_X5_noLong rfl rfl ⟨Nat.le_of_ble_eq_true rfl, Nat.le_of_ble_eq_true rfl⟩ hP hD hS [0, 6] [1, 2, 3, 4, 5] rfl rfl 0 rfl rfl hl.1 rfl rfl (Nat.le_of_ble_eq_true rfl) dX5_goOnCosts_24 ⟨Nat.le_of_ble_eq_true rfl, Nat.le_of_ble_eq_true rfl⟩ (fun rz w1 H locs hpo hP hD hS => ?_)
      obtain ⟨rfl, rfl⟩ := hpo
      obtain ⟨hP, hD⟩ := nx (ws' := [(m0, .inr (5, [.ref m1, .ref m2, .ref m3, .int (nI kp), .ref m4, .ref m5, .ref m6, .ref m7, .ref m8, .int (nI rn), .ref m9, .int (nI tn), .int (nI ia), .int (nI wl), .ref m10, .ref m11, .ref m12, .int (nI si), .ref m13, .ref m14])), (m2, .inl (eI g, 49, .inl (fun j => nI (S j)))), (m4, .inl (eI g, 41, .inl O)), (m5, .inl (eI g, 9, .inl (fun j => nI (Y j)))), (m6, .inl (eI g, 9, .inl (fun j => nI (Z j)))), (m7, .inl (eI g, 49, .inl (fun j => nI (M j)))), (m1, .inl (eI g, 7, .inl (bump rf 3)))]) hP hD [5, 0, 1, 2, 3, 4, 6] (ndB_ok _ rfl) rfl
      exact rtL F hP hD hS dX5_goOnCosts_27 (by rw [show (if ¬ (x.toInt = 0 ∨ x.toInt = 1) then 2 else if cnS (lpB S) = 0 then 3 else 0) = 3 from (by first | (exfalso; omega) | ((try simp only [true_and, and_true]); (repeat (first | rw [if_pos (by omega)] | rw [if_neg (by omega)])) <;> rfl))]; first | done | exact ⟨_, _, _, _, by rfl, by rfl⟩)
  · skip
    refine lv_aload_n hx hb dX5_goOnCosts_7 rfl (lv_at hl 0 rfl) ?_
    refine lv_bipush (v := (-2)) hx hb dX5_goOnCosts_8 (by decide) ?_
    refine cVL (As := [.int (-2)]) (rest := []) F (c_X5_noLong l g m0 m1 m2 m3 m4 m5 m6 m7 m8 m9 m10 m11 m12 m13 m14 kp rn tn ia wl si rf (-2) 2 (by decide) (by omega) (by omega)) kX5_noLong rfl gX5_goOnCosts_X5_noLong rfl rfl ⟨Nat.le_of_ble_eq_true rfl, Nat.le_of_ble_eq_true rfl⟩ hP hD hS [0, 6] [1, 2, 3, 4, 5] rfl rfl 0 rfl rfl hl.1 rfl rfl (Nat.le_of_ble_eq_true rfl) dX5_goOnCosts_10 ⟨Nat.le_of_ble_eq_true rfl, Nat.le_of_ble_eq_true rfl⟩ (fun rz w1 H locs hpo hP hD hS => ?_)
    obtain ⟨rfl, rfl⟩ := hpo
    obtain ⟨hP, hD⟩ := nx (ws' := [(m0, .inr (5, [.ref m1, .ref m2, .ref m3, .int (nI kp), .ref m4, .ref m5, .ref m6, .ref m7, .ref m8, .int (nI rn), .ref m9, .int (nI tn), .int (nI ia), .int (nI wl), .ref m10, .ref m11, .ref m12, .int (nI si), .ref m13, .ref m14])), (m2, .inl (eI g, 49, .inl (fun j => nI (S j)))), (m4, .inl (eI g, 41, .inl O)), (m5, .inl (eI g, 9, .inl (fun j => nI (Y j)))), (m6, .inl (eI g, 9, .inl (fun j => nI (Z j)))), (m7, .inl (eI g, 49, .inl (fun j => nI (M j)))), (m1, .inl (eI g, 7, .inl (bump rf 2)))]) hP hD [5, 0, 1, 2, 3, 4, 6] (ndB_ok _ rfl) rfl
    exact rtL F hP hD hS dX5_goOnCosts_13 (by rw [show (if ¬ (x.toInt = 0 ∨ x.toInt = 1) then 2 else if cnS (lpB S) = 0 then 3 else 0) = 2 from (by first | (exfalso; omega) | ((try simp only [true_and, and_true]); (repeat (first | rw [if_pos (by omega)] | rw [if_neg (by omega)])) <;> rfl))]; first | done | exact ⟨_, _, _, _, by rfl, by rfl⟩)

theorem inX4_costs_X4 : ∀ w ∈ u_ws RX4 TX4 10, w ∈ wsX4_costs := fun _ h => (List.mem_cons_of_mem _ (List.mem_append_left _ (List.mem_append_right _ h)))
theorem lkX4_costs_1 : Cond.fieldLink RX4 10 "StripInFiveSteps" "now" "LStripInFiveSteps$Shed;" ∈ wsX4_costs := List.mem_of_getElem? (i := 1) rfl
theorem inX4_costs_X0 : ∀ w ∈ u_ws RX0 TX0 5, w ∈ wsX4_costs := fun _ h => (List.mem_cons_of_mem _ (List.mem_append_right _ h))
theorem lkX4_costs_2 : Cond.fieldLink RX4 93 "StripInFiveSteps$Shed" "numbers" "[I" ∈ wsX4_costs := List.mem_of_getElem? (i := 2) rfl
theorem kX4_costs : Cal yX4_costs wsX4_costs cX4_costs 8 (some .long) 3 := ⟨⟨_, rfl⟩, by decide +kernel⟩
set_option maxHeartbeats 4000000 in
set_option maxRecDepth 100000 in
theorem c_X4_costs (l : Launch) (g : EE) (x0 : Nat) (h0 : Nat) (d0 : Nat) (k0 : Nat) (b0 : Nat) (a0 : Nat) (t0 : Nat) (r0 : Nat) (r1 : Nat) (ik : Nat) (rn : Nat) (h1 : Nat) (h2 : Nat) (W : Nat → Nat) (B : Nat → Nat) (sk : Nat) (ek : Nat) (tr : Nat) (rf : Nat → Int32) (x : Int32) (y : Int32) (z : Int32) (hW : ∀ j, W j ≤ 9) (hB : okB B) : CL l yX4_costs wsX4_costs ({ frames := 2, cells := 0, slots := 0, locals := 56 }) g [.ref x0, .int x, .int y, .int z] [(x0, .inr (4, [.ref h0, .ref d0, .ref k0, .int (nI ik), .ref b0, .ref a0, .ref t0, .ref r0, .int (nI rn), .ref r1])), (h0, .inr (0, [.ref h1, .ref h2, .int (nI sk), .int (nI ek), .int (nI tr)])), (h1, .inl (eI g, 41, .inl (fun j => nI (W j)))), (h2, .inl (eI g, 5, .inl (fun j => nI (B j)))), (r1, .inl (eI g, 7, .inl rf))] (fun (rz : Int64) (wz : va_W) => rz = (rspL (if x.toInt < 0 then 4 else if 20 < x.toInt then 6 else if ¬ (1 ≤ y.toInt ∧ y.toInt ≤ 40) then 1 else if ¬ (z.toInt = 0 ∨ z.toInt = 1) then 2 else if cnS (lpB W) = 0 then 3 else 0) (lN (frN (B 3 * x.toNatClampNeg * (sg W 40) + faS W (lpB W) y.toNatClampNeg * (B 4)) (sg W 40) (decide (z.toInt = 0))))) ∧ wz = [(x0, .inr (4, [.ref h0, .ref d0, .ref k0, .int (nI ik), .ref b0, .ref a0, .ref t0, .ref r0, .int (nI rn), .ref r1])), (h0, .inr (0, [.ref h1, .ref h2, .int (nI sk), .int (nI ek), .int (nI tr)])), (h1, .inl (eI g, 41, .inl (fun j => nI (W j)))), (h2, .inl (eI g, 5, .inl (fun j => nI (B j)))), (r1, .inl (eI g, 7, .inl (bump rf (if x.toInt < 0 then 4 else if 20 < x.toInt then 6 else if ¬ (1 ≤ y.toInt ∧ y.toInt ≤ 40) then 1 else if ¬ (z.toInt = 0 ∨ z.toInt = 1) then 2 else if cnS (lpB W) = 0 then 3 else 0))))]) 0 0 := by
  refine ctL (cc := cX4_costs) (maxL := 8) (ret := (some .long)) (by decide) rfl (Nat.le_of_ble_eq_true rfl) ?_
  intro p_ e_ s_ m_ bl_ mt_ cd_ A ls F hnm hP hD hS hl
  obtain ⟨hx, hb, hml, hown, hts, hK, hX, hA, hrt_, hlocks⟩ := id F
  have hl : lv_has ls 8 [(0, .ref x0), (1, .int x), (2, .int y), (3, .int z)] := hl
  obtain ⟨hb0, hb1, hb2, hb3, hb4, hb5⟩ := okB_b hB
  refine lv_iload_n hx hb dX4_costs_0 rfl (lv_at hl 1 rfl) ?_
  refine wge (tgt := 11) hx hb dX4_costs_1 (by decide) (fun c1 => ?_) (fun c1 => ?_)
  · skip
    refine lv_iload_n hx hb dX4_costs_11 rfl (lv_at hl 1 rfl) ?_
    refine lv_bipush (v := (nI 20)) hx hb dX4_costs_12 (by decide) ?_
    refine yle (tgt := 24) hx hb dX4_costs_14 (by decide) (by omega) (fun c14 => ?_) (fun c14 => ?_)
    · skip
      obtain ⟨k, hk_, rfl⟩ := natOf (x := x) (by omega)
      rw [nI_tI hk_] at c1
      rw [nI_tI hk_] at c14
      refine lv_iload_n hx hb dX4_costs_24 rfl (lv_at hl 2 rfl) ?_
      refine cSI (As := [.int y]) (rest := []) F (c_X4_isSecond l g y ) kX4_isSecond gX4_costs_X4_isSecond rfl rfl ⟨Nat.le_of_ble_eq_true rfl, Nat.le_of_ble_eq_true rfl⟩ hP hD hS [] [0, 1, 2, 3, 4] rfl rfl hl.1 rfl rfl (Nat.le_of_ble_eq_true rfl) dX4_costs_25 ⟨Nat.le_of_ble_eq_true rfl, Nat.le_of_ble_eq_true rfl⟩ (fun rz w1 H locs hpo hP hD hS => ?_)
      obtain ⟨rfl, rfl⟩ := hpo
      obtain ⟨hP, hD⟩ := nx (ws' := [(x0, .inr (4, [.ref h0, .ref d0, .ref k0, .int (nI ik), .ref b0, .ref a0, .ref t0, .ref r0, .int (nI rn), .ref r1])), (h0, .inr (0, [.ref h1, .ref h2, .int (nI sk), .int (nI ek), .int (nI tr)])), (h1, .inl (eI g, 41, .inl (fun j => nI (W j)))), (h2, .inl (eI g, 5, .inl (fun j => nI (B j)))), (r1, .inl (eI g, 7, .inl rf))]) hP hD [0, 1, 2, 3, 4] (ndB_ok _ rfl) rfl
      refine bqne (tgt := 37) hx hb dX4_costs_28 (by decide) (fun c28 => ?_) (fun c28 => ?_)
      · skip
        obtain ⟨k2, hk2_, rfl⟩ := natOf (x := y) (by omega)
        rw [nI_tI hk2_] at c28
        refine lv_iload_n hx hb dX4_costs_37 rfl (lv_at hl 3 rfl) ?_
        refine cSI (As := [.int z]) (rest := []) F (c_X4_isPart l g z ) kX4_isPart gX4_costs_X4_isPart rfl rfl ⟨Nat.le_of_ble_eq_true rfl, Nat.le_of_ble_eq_true rfl⟩ hP hD hS [] [0, 1, 2, 3, 4] rfl rfl hl.1 rfl rfl (Nat.le_of_ble_eq_true rfl) dX4_costs_38 ⟨Nat.le_of_ble_eq_true rfl, Nat.le_of_ble_eq_true rfl⟩ (fun rz w1 H locs hpo hP hD hS => ?_)
        obtain ⟨rfl, rfl⟩ := hpo
        obtain ⟨hP, hD⟩ := nx (ws' := [(x0, .inr (4, [.ref h0, .ref d0, .ref k0, .int (nI ik), .ref b0, .ref a0, .ref t0, .ref r0, .int (nI rn), .ref r1])), (h0, .inr (0, [.ref h1, .ref h2, .int (nI sk), .int (nI ek), .int (nI tr)])), (h1, .inl (eI g, 41, .inl (fun j => nI (W j)))), (h2, .inl (eI g, 5, .inl (fun j => nI (B j)))), (r1, .inl (eI g, 7, .inl rf))]) hP hD [0, 1, 2, 3, 4] (ndB_ok _ rfl) rfl
        refine bqne (tgt := 51) hx hb dX4_costs_41 (by decide) (fun c41 => ?_) (fun c41 => ?_)
        · skip
          refine lv_aload_n hx hb dX4_costs_51 rfl (lv_at hl 0 rfl) ?_
          refine xget F hP inX4_costs_X4 0 rfl rfl 0 (by decide) lkX4_costs_1 rfl dX4_costs_52 ?_
          refine cVL (As := []) (rest := []) F (c_X0_left l g h0 h1 h2 W B sk ek tr (hW)) kX0_left rfl gX4_costs_X0_left rfl rfl ⟨Nat.le_of_ble_eq_true rfl, Nat.le_of_ble_eq_true rfl⟩ hP hD hS [1, 2, 3] [0, 4] rfl rfl 0 rfl rfl hl.1 rfl rfl (Nat.le_of_ble_eq_true rfl) dX4_costs_55 ⟨Nat.le_of_ble_eq_true rfl, Nat.le_of_ble_eq_true rfl⟩ (fun rz w1 H locs hpo hP hD hS => ?_)
          obtain ⟨rfl, rfl⟩ := hpo
          obtain ⟨hP, hD⟩ := nx (ws' := [(x0, .inr (4, [.ref h0, .ref d0, .ref k0, .int (nI ik), .ref b0, .ref a0, .ref t0, .ref r0, .int (nI rn), .ref r1])), (h0, .inr (0, [.ref h1, .ref h2, .int (nI sk), .int (nI ek), .int (nI tr)])), (h1, .inl (eI g, 41, .inl (fun j => nI (W j)))), (h2, .inl (eI g, 5, .inl (fun j => nI (B j)))), (r1, .inl (eI g, 7, .inl rf))]) hP hD [0, 2, 3, 4, 1] (ndB_ok _ rfl) rfl
          refine lv_lstore (lv' := [(4, .long (lfM W)), (0, .ref x0), (1, .int (nI k)), (2, .int (nI k2)), (3, .int z)]) hx hb dX4_costs_58 hl (by decide) rfl (fun ls hl => ?_)
          refine lv_lload hx hb dX4_costs_60 (lv_at hl 0 rfl) ?_
          refine lv_lconst (v := lN 0) hx hb dX4_costs_62 rfl ?_
          refine jne (tgt := 74) hx hb dX4_costs_63 dX4_costs_64 (by decide) (fun c64 => ?_) (fun c64 => ?_)
          · skip
            have hc0 : ¬ cnS (lpB W) = 0 := fun z => c64 ((lf0 W).mpr z)
            refine lv_aload_n hx hb dX4_costs_74 rfl (lv_at hl 1 rfl) ?_
            refine xget F hP inX4_costs_X4 0 rfl rfl 0 (by decide) lkX4_costs_1 rfl dX4_costs_75 ?_
            refine lv_lload hx hb dX4_costs_78 (lv_at hl 0 rfl) ?_
            refine cVI (As := [.long (lfM W)]) (rest := []) F (c_X0_weightOf l g h0 h1 h2 W B sk ek tr (lfM W) ) kX0_weightOf rfl gX4_costs_X0_weightOf rfl rfl ⟨Nat.le_of_ble_eq_true rfl, Nat.le_of_ble_eq_true rfl⟩ hP hD hS [1, 2, 3] [0, 4] rfl rfl 0 rfl rfl hl.1 rfl rfl (Nat.le_of_ble_eq_true rfl) dX4_costs_80 ⟨Nat.le_of_ble_eq_true rfl, Nat.le_of_ble_eq_true rfl⟩ (fun rz w1 H locs hpo hP hD hS => ?_)
            obtain ⟨rfl, rfl⟩ := hpo
            obtain ⟨hP, hD⟩ := nx (ws' := [(x0, .inr (4, [.ref h0, .ref d0, .ref k0, .int (nI ik), .ref b0, .ref a0, .ref t0, .ref r0, .int (nI rn), .ref r1])), (h0, .inr (0, [.ref h1, .ref h2, .int (nI sk), .int (nI ek), .int (nI tr)])), (h1, .inl (eI g, 41, .inl (fun j => nI (W j)))), (h2, .inl (eI g, 5, .inl (fun j => nI (B j)))), (r1, .inl (eI g, 7, .inl rf))]) hP hD [0, 2, 3, 4, 1] (ndB_ok _ rfl) rfl
            refine sti (congrArg nI (show wtS W (bitL (lfM W)) = sg W 40 from by rw [bitL_lfM, wtS_lp])) ?_
            refine lv_i2l (v := lN (sg W 40)) hx hb dX4_costs_83 (nI_l (by have := sgW_b (W := W) (fun j _ => hW j); omega)) ?_
            refine lv_lstore (lv' := [(6, .long (lN (sg W 40))), (4, .long (lfM W)), (0, .ref x0), (1, .int (nI k)), (2, .int (nI k2)), (3, .int z)]) hx hb dX4_costs_84 hl (by decide) rfl (fun ls hl => ?_)
            refine lv_aload_n hx hb dX4_costs_86 rfl (lv_at hl 2 rfl) ?_
            refine xget F hP inX4_costs_X4 0 rfl rfl 0 (by decide) lkX4_costs_1 rfl dX4_costs_87 ?_
            refine xget F hP inX4_costs_X0 1 rfl rfl 1 (by decide) lkX4_costs_2 rfl dX4_costs_90 ?_
            refine lv_iconst (v := (nI 3)) hx hb dX4_costs_93 (by decide) ?_
            refine xald F hP 3 (v := (nI (B 3))) rfl (by omega) (by omega) rfl dX4_costs_94 ?_
            refine lv_iload_n hx hb dX4_costs_95 rfl (lv_at hl 3 rfl) ?_
            refine xmul hx hb dX4_costs_96 ?_
            have hbA := mul_le_c (show B 3 ≤ 99 by omega) (show k ≤ 20 by omega)
            have hbW := sgW_b (W := W) (fun j _ => hW j)
            have hbA2 := mul_le_c hbA hbW
            have hbF := faS_b (p := lpB W) hW (show k2 ≤ 40 by omega) (show B 4 ≤ 99 by omega)
            refine lv_i2l (v := lN ((B 3) * k)) hx hb dX4_costs_97 (nI_l (by omega)) ?_
            refine lv_lload hx hb dX4_costs_98 (lv_at hl 0 rfl) ?_
            refine xlmul hx hb dX4_costs_100 ?_
            refine lv_aload_n hx hb dX4_costs_101 rfl (lv_at hl 2 rfl) ?_
            refine xget F hP inX4_costs_X4 0 rfl rfl 0 (by decide) lkX4_costs_1 rfl dX4_costs_102 ?_
            refine lv_iload_n hx hb dX4_costs_105 rfl (lv_at hl 4 rfl) ?_
            refine lv_lload hx hb dX4_costs_106 (lv_at hl 1 rfl) ?_
            refine cVL (As := [.int (nI k2), .long (lfM W)]) (rest := [.long (lN (((B 3) * k) * (sg W 40)))]) F (c_X0_faultsAt l g h0 h1 h2 W B sk ek tr k2 (lfM W) (hW) (by omega) (by omega)) kX0_faultsAt rfl gX4_costs_X0_faultsAt rfl rfl ⟨Nat.le_of_ble_eq_true rfl, Nat.le_of_ble_eq_true rfl⟩ hP hD hS [1, 2, 3] [0, 4] rfl rfl 0 rfl rfl hl.1 rfl rfl (Nat.le_of_ble_eq_true rfl) dX4_costs_108 ⟨Nat.le_of_ble_eq_true rfl, Nat.le_of_ble_eq_true rfl⟩ (fun rz w1 H locs hpo hP hD hS => ?_)
            obtain ⟨rfl, rfl⟩ := hpo
            obtain ⟨hP, hD⟩ := nx (ws' := [(x0, .inr (4, [.ref h0, .ref d0, .ref k0, .int (nI ik), .ref b0, .ref a0, .ref t0, .ref r0, .int (nI rn), .ref r1])), (h0, .inr (0, [.ref h1, .ref h2, .int (nI sk), .int (nI ek), .int (nI tr)])), (h1, .inl (eI g, 41, .inl (fun j => nI (W j)))), (h2, .inl (eI g, 5, .inl (fun j => nI (B j)))), (r1, .inl (eI g, 7, .inl rf))]) hP hD [0, 2, 3, 4, 1] (ndB_ok _ rfl) rfl
            refine stl (congrArg lN (show faS W (bitL (lfM W)) k2 * B 4 = faS W (lpB W) k2 * B 4 from by rw [bitL_lfM])) ?_
            refine xladd hx hb dX4_costs_111 ?_
            refine lv_lload hx hb dX4_costs_112 (lv_at hl 0 rfl) ?_
            refine lv_iload_n hx hb dX4_costs_114 rfl (lv_at hl 5 rfl) ?_
            refine cSL (As := [.long (lN ((((B 3) * k) * (sg W 40)) + (faS W (lpB W) k2 * B 4))), .long (lN (sg W 40)), .int z]) (rest := []) F (c_X4_fraction l g ((((B 3) * k) * (sg W 40)) + (faS W (lpB W) k2 * B 4)) (sg W 40) z (by omega) (by omega)) kX4_fraction gX4_costs_X4_fraction rfl rfl ⟨Nat.le_of_ble_eq_true rfl, Nat.le_of_ble_eq_true rfl⟩ hP hD hS [] [0, 1, 2, 3, 4] rfl rfl hl.1 rfl rfl (Nat.le_of_ble_eq_true rfl) dX4_costs_115 ⟨Nat.le_of_ble_eq_true rfl, Nat.le_of_ble_eq_true rfl⟩ (fun rz w1 H locs hpo hP hD hS => ?_)
            obtain ⟨rfl, rfl⟩ := hpo
            obtain ⟨hP, hD⟩ := nx (ws' := [(x0, .inr (4, [.ref h0, .ref d0, .ref k0, .int (nI ik), .ref b0, .ref a0, .ref t0, .ref r0, .int (nI rn), .ref r1])), (h0, .inr (0, [.ref h1, .ref h2, .int (nI sk), .int (nI ek), .int (nI tr)])), (h1, .inl (eI g, 41, .inl (fun j => nI (W j)))), (h2, .inl (eI g, 5, .inl (fun j => nI (B j)))), (r1, .inl (eI g, 7, .inl rf))]) hP hD [0, 1, 2, 3, 4] (ndB_ok _ rfl) rfl
            exact rtL F hP hD hS dX4_costs_118 (by rw [show (if (nI k).toInt < 0 then 4 else if 20 < (nI k).toInt then 6 else if ¬ (1 ≤ (nI k2).toInt ∧ (nI k2).toInt ≤ 40) then 1 else if ¬ (z.toInt = 0 ∨ z.toInt = 1) then 2 else if cnS (lpB W) = 0 then 3 else 0) = 0 from (by first | (exfalso; omega) | ((try simp only [nI_tI hk_, nI_tI hk2_, nI_clamp hk_, nI_clamp hk2_, true_and, and_true]); (repeat (first | rw [if_pos (by omega)] | rw [if_neg (by omega)])) <;> rfl))]; first | done | exact ⟨by first | ((try simp only [nI_tI hk_, nI_tI hk2_, nI_clamp hk_, nI_clamp hk2_, true_and, and_true, rsp_0, rspL_0, bump_0]) <;> (repeat (first | rw [if_pos (by omega)] | rw [if_neg (by omega)])) <;> rfl) | (exfalso; omega), by first | ((try simp only [nI_tI hk_, nI_tI hk2_, nI_clamp hk_, nI_clamp hk2_, true_and, and_true, rsp_0, rspL_0, bump_0]) <;> (repeat (first | rw [if_pos (by omega)] | rw [if_neg (by omega)])) <;> rfl) | (exfalso; omega)⟩)
          · skip
            have hc0 : cnS (lpB W) = 0 := (lf0 W).mp c64
            refine lv_aload_n hx hb dX4_costs_67 rfl (lv_at hl 1 rfl) ?_
            refine lv_bipush (v := (-3)) hx hb dX4_costs_68 (by decide) ?_
            refine cVL (As := [.int (-3)]) (rest := []) F (c_X4_refuseLong l g x0 h0 d0 k0 b0 a0 t0 r0 r1 ik rn rf (-3) 3 (by decide) (by omega) (by omega)) kX4_refuseLong rfl gX4_costs_X4_refuseLong rfl rfl ⟨Nat.le_of_ble_eq_true rfl, Nat.le_of_ble_eq_true rfl⟩ hP hD hS [0, 4] [1, 2, 3] rfl rfl 0 rfl rfl hl.1 rfl rfl (Nat.le_of_ble_eq_true rfl) dX4_costs_70 ⟨Nat.le_of_ble_eq_true rfl, Nat.le_of_ble_eq_true rfl⟩ (fun rz w1 H locs hpo hP hD hS => ?_)
            obtain ⟨rfl, rfl⟩ := hpo
            obtain ⟨hP, hD⟩ := nx (ws' := [(x0, .inr (4, [.ref h0, .ref d0, .ref k0, .int (nI ik), .ref b0, .ref a0, .ref t0, .ref r0, .int (nI rn), .ref r1])), (h0, .inr (0, [.ref h1, .ref h2, .int (nI sk), .int (nI ek), .int (nI tr)])), (h1, .inl (eI g, 41, .inl (fun j => nI (W j)))), (h2, .inl (eI g, 5, .inl (fun j => nI (B j)))), (r1, .inl (eI g, 7, .inl (bump rf 3)))]) hP hD [3, 0, 1, 2, 4] (ndB_ok _ rfl) rfl
            exact rtL F hP hD hS dX4_costs_73 (by rw [show (if (nI k).toInt < 0 then 4 else if 20 < (nI k).toInt then 6 else if ¬ (1 ≤ (nI k2).toInt ∧ (nI k2).toInt ≤ 40) then 1 else if ¬ (z.toInt = 0 ∨ z.toInt = 1) then 2 else if cnS (lpB W) = 0 then 3 else 0) = 3 from (by first | (exfalso; omega) | ((try simp only [nI_tI hk_, nI_tI hk2_, nI_clamp hk_, nI_clamp hk2_, true_and, and_true]); (repeat (first | rw [if_pos (by omega)] | rw [if_neg (by omega)])) <;> rfl))]; first | done | exact ⟨by rfl, by rfl⟩)
        · skip
          refine lv_aload_n hx hb dX4_costs_44 rfl (lv_at hl 0 rfl) ?_
          refine lv_bipush (v := (-2)) hx hb dX4_costs_45 (by decide) ?_
          refine cVL (As := [.int (-2)]) (rest := []) F (c_X4_refuseLong l g x0 h0 d0 k0 b0 a0 t0 r0 r1 ik rn rf (-2) 2 (by decide) (by omega) (by omega)) kX4_refuseLong rfl gX4_costs_X4_refuseLong rfl rfl ⟨Nat.le_of_ble_eq_true rfl, Nat.le_of_ble_eq_true rfl⟩ hP hD hS [0, 4] [1, 2, 3] rfl rfl 0 rfl rfl hl.1 rfl rfl (Nat.le_of_ble_eq_true rfl) dX4_costs_47 ⟨Nat.le_of_ble_eq_true rfl, Nat.le_of_ble_eq_true rfl⟩ (fun rz w1 H locs hpo hP hD hS => ?_)
          obtain ⟨rfl, rfl⟩ := hpo
          obtain ⟨hP, hD⟩ := nx (ws' := [(x0, .inr (4, [.ref h0, .ref d0, .ref k0, .int (nI ik), .ref b0, .ref a0, .ref t0, .ref r0, .int (nI rn), .ref r1])), (h0, .inr (0, [.ref h1, .ref h2, .int (nI sk), .int (nI ek), .int (nI tr)])), (h1, .inl (eI g, 41, .inl (fun j => nI (W j)))), (h2, .inl (eI g, 5, .inl (fun j => nI (B j)))), (r1, .inl (eI g, 7, .inl (bump rf 2)))]) hP hD [3, 0, 1, 2, 4] (ndB_ok _ rfl) rfl
          exact rtL F hP hD hS dX4_costs_50 (by rw [show (if (nI k).toInt < 0 then 4 else if 20 < (nI k).toInt then 6 else if ¬ (1 ≤ (nI k2).toInt ∧ (nI k2).toInt ≤ 40) then 1 else if ¬ (z.toInt = 0 ∨ z.toInt = 1) then 2 else if cnS (lpB W) = 0 then 3 else 0) = 2 from (by first | (exfalso; omega) | ((try simp only [nI_tI hk_, nI_tI hk2_, nI_clamp hk_, nI_clamp hk2_, true_and, and_true]); (repeat (first | rw [if_pos (by omega)] | rw [if_neg (by omega)])) <;> rfl))]; first | done | exact ⟨by rfl, by rfl⟩)
      · skip
        refine lv_aload_n hx hb dX4_costs_31 rfl (lv_at hl 0 rfl) ?_
        refine lv_iconst (v := (-1)) hx hb dX4_costs_32 (by decide) ?_
        refine cVL (As := [.int (-1)]) (rest := []) F (c_X4_refuseLong l g x0 h0 d0 k0 b0 a0 t0 r0 r1 ik rn rf (-1) 1 (by decide) (by omega) (by omega)) kX4_refuseLong rfl gX4_costs_X4_refuseLong rfl rfl ⟨Nat.le_of_ble_eq_true rfl, Nat.le_of_ble_eq_true rfl⟩ hP hD hS [0, 4] [1, 2, 3] rfl rfl 0 rfl rfl hl.1 rfl rfl (Nat.le_of_ble_eq_true rfl) dX4_costs_33 ⟨Nat.le_of_ble_eq_true rfl, Nat.le_of_ble_eq_true rfl⟩ (fun rz w1 H locs hpo hP hD hS => ?_)
        obtain ⟨rfl, rfl⟩ := hpo
        obtain ⟨hP, hD⟩ := nx (ws' := [(x0, .inr (4, [.ref h0, .ref d0, .ref k0, .int (nI ik), .ref b0, .ref a0, .ref t0, .ref r0, .int (nI rn), .ref r1])), (h0, .inr (0, [.ref h1, .ref h2, .int (nI sk), .int (nI ek), .int (nI tr)])), (h1, .inl (eI g, 41, .inl (fun j => nI (W j)))), (h2, .inl (eI g, 5, .inl (fun j => nI (B j)))), (r1, .inl (eI g, 7, .inl (bump rf 1)))]) hP hD [3, 0, 1, 2, 4] (ndB_ok _ rfl) rfl
        exact rtL F hP hD hS dX4_costs_36 (by rw [show (if (nI k).toInt < 0 then 4 else if 20 < (nI k).toInt then 6 else if ¬ (1 ≤ y.toInt ∧ y.toInt ≤ 40) then 1 else if ¬ (z.toInt = 0 ∨ z.toInt = 1) then 2 else if cnS (lpB W) = 0 then 3 else 0) = 1 from (by first | (exfalso; omega) | ((try simp only [nI_tI hk_, nI_clamp hk_, true_and, and_true]); (repeat (first | rw [if_pos (by omega)] | rw [if_neg (by omega)])) <;> rfl))]; first | done | exact ⟨by rfl, by rfl⟩)
    · skip
      refine lv_aload_n hx hb dX4_costs_17 rfl (lv_at hl 0 rfl) ?_
      refine lv_bipush (v := (-6)) hx hb dX4_costs_18 (by decide) ?_
      refine cVL (As := [.int (-6)]) (rest := []) F (c_X4_refuseLong l g x0 h0 d0 k0 b0 a0 t0 r0 r1 ik rn rf (-6) 6 (by decide) (by omega) (by omega)) kX4_refuseLong rfl gX4_costs_X4_refuseLong rfl rfl ⟨Nat.le_of_ble_eq_true rfl, Nat.le_of_ble_eq_true rfl⟩ hP hD hS [0, 4] [1, 2, 3] rfl rfl 0 rfl rfl hl.1 rfl rfl (Nat.le_of_ble_eq_true rfl) dX4_costs_20 ⟨Nat.le_of_ble_eq_true rfl, Nat.le_of_ble_eq_true rfl⟩ (fun rz w1 H locs hpo hP hD hS => ?_)
      obtain ⟨rfl, rfl⟩ := hpo
      obtain ⟨hP, hD⟩ := nx (ws' := [(x0, .inr (4, [.ref h0, .ref d0, .ref k0, .int (nI ik), .ref b0, .ref a0, .ref t0, .ref r0, .int (nI rn), .ref r1])), (h0, .inr (0, [.ref h1, .ref h2, .int (nI sk), .int (nI ek), .int (nI tr)])), (h1, .inl (eI g, 41, .inl (fun j => nI (W j)))), (h2, .inl (eI g, 5, .inl (fun j => nI (B j)))), (r1, .inl (eI g, 7, .inl (bump rf 6)))]) hP hD [3, 0, 1, 2, 4] (ndB_ok _ rfl) rfl
      exact rtL F hP hD hS dX4_costs_23 (by rw [show (if x.toInt < 0 then 4 else if 20 < x.toInt then 6 else if ¬ (1 ≤ y.toInt ∧ y.toInt ≤ 40) then 1 else if ¬ (z.toInt = 0 ∨ z.toInt = 1) then 2 else if cnS (lpB W) = 0 then 3 else 0) = 6 from (by first | (exfalso; omega) | ((try simp only [true_and, and_true]); (repeat (first | rw [if_pos (by omega)] | rw [if_neg (by omega)])) <;> rfl))]; first | done | exact ⟨by rfl, by rfl⟩)
  · skip
    refine lv_aload_n hx hb dX4_costs_4 rfl (lv_at hl 0 rfl) ?_
    refine lv_bipush (v := (-4)) hx hb dX4_costs_5 (by decide) ?_
    refine cVL (As := [.int (-4)]) (rest := []) F (c_X4_refuseLong l g x0 h0 d0 k0 b0 a0 t0 r0 r1 ik rn rf (-4) 4 (by decide) (by omega) (by omega)) kX4_refuseLong rfl gX4_costs_X4_refuseLong rfl rfl ⟨Nat.le_of_ble_eq_true rfl, Nat.le_of_ble_eq_true rfl⟩ hP hD hS [0, 4] [1, 2, 3] rfl rfl 0 rfl rfl hl.1 rfl rfl (Nat.le_of_ble_eq_true rfl) dX4_costs_7 ⟨Nat.le_of_ble_eq_true rfl, Nat.le_of_ble_eq_true rfl⟩ (fun rz w1 H locs hpo hP hD hS => ?_)
    obtain ⟨rfl, rfl⟩ := hpo
    obtain ⟨hP, hD⟩ := nx (ws' := [(x0, .inr (4, [.ref h0, .ref d0, .ref k0, .int (nI ik), .ref b0, .ref a0, .ref t0, .ref r0, .int (nI rn), .ref r1])), (h0, .inr (0, [.ref h1, .ref h2, .int (nI sk), .int (nI ek), .int (nI tr)])), (h1, .inl (eI g, 41, .inl (fun j => nI (W j)))), (h2, .inl (eI g, 5, .inl (fun j => nI (B j)))), (r1, .inl (eI g, 7, .inl (bump rf 4)))]) hP hD [3, 0, 1, 2, 4] (ndB_ok _ rfl) rfl
    exact rtL F hP hD hS dX4_costs_10 (by rw [show (if x.toInt < 0 then 4 else if 20 < x.toInt then 6 else if ¬ (1 ≤ y.toInt ∧ y.toInt ≤ 40) then 1 else if ¬ (z.toInt = 0 ∨ z.toInt = 1) then 2 else if cnS (lpB W) = 0 then 3 else 0) = 4 from (by first | (exfalso; omega) | ((try simp only [true_and, and_true]); (repeat (first | rw [if_pos (by omega)] | rw [if_neg (by omega)])) <;> rfl))]; first | done | exact ⟨by rfl, by rfl⟩)

theorem inX5_costs_X5 : ∀ w ∈ u_ws RX5 TX5 20, w ∈ wsX5_costs := fun _ h => (List.mem_cons_of_mem _ (List.mem_append_right _ h))
theorem lkX5_costs_1 : Cond.fieldLink RX5 19 "StripInFiveStepsModel" "now" "[I" ∈ wsX5_costs := List.mem_of_getElem? (i := 1) rfl
theorem kX5_costs : Cal yX5_costs wsX5_costs cX5_costs 4 (some .long) 3 := ⟨⟨_, rfl⟩, by decide +kernel⟩
set_option maxHeartbeats 4000000 in
set_option maxRecDepth 100000 in
theorem c_X5_costs (l : Launch) (g : EE) (m0 : Nat) (m1 : Nat) (m2 : Nat) (m3 : Nat) (m4 : Nat) (m5 : Nat) (m6 : Nat) (m7 : Nat) (m8 : Nat) (m9 : Nat) (m10 : Nat) (m11 : Nat) (m12 : Nat) (m13 : Nat) (m14 : Nat) (kp : Nat) (rn : Nat) (tn : Nat) (ia : Nat) (wl : Nat) (si : Nat) (S : Nat → Nat) (rf : Nat → Int32) (x : Int32) (y : Int32) (z : Int32) (hO : okS S) : CL l yX5_costs wsX5_costs ({ frames := 2, cells := 0, slots := 0, locals := 42 }) g [.ref m0, .int x, .int y, .int z] [(m0, .inr (5, [.ref m1, .ref m2, .ref m3, .int (nI kp), .ref m4, .ref m5, .ref m6, .ref m7, .ref m8, .int (nI rn), .ref m9, .int (nI tn), .int (nI ia), .int (nI wl), .ref m10, .ref m11, .ref m12, .int (nI si), .ref m13, .ref m14])), (m1, .inl (eI g, 7, .inl rf)), (m2, .inl (eI g, 49, .inl (fun j => nI (S j))))] (fun (rz : Int64) (wz : va_W) => rz = (rspL (if x.toInt < 0 then 4 else if 20 < x.toInt then 6 else if ¬ (1 ≤ y.toInt ∧ y.toInt ≤ 40) then 1 else if ¬ (z.toInt = 0 ∨ z.toInt = 1) then 2 else if cnS (lpB S) = 0 then 3 else 0) (lN (frN (S 44 * x.toNatClampNeg * (sg S 40) + faS S (lpB S) y.toNatClampNeg * (S 45)) (sg S 40) (decide (z.toInt = 0))))) ∧ wz = [(m0, .inr (5, [.ref m1, .ref m2, .ref m3, .int (nI kp), .ref m4, .ref m5, .ref m6, .ref m7, .ref m8, .int (nI rn), .ref m9, .int (nI tn), .int (nI ia), .int (nI wl), .ref m10, .ref m11, .ref m12, .int (nI si), .ref m13, .ref m14])), (m1, .inl (eI g, 7, .inl (bump rf (if x.toInt < 0 then 4 else if 20 < x.toInt then 6 else if ¬ (1 ≤ y.toInt ∧ y.toInt ≤ 40) then 1 else if ¬ (z.toInt = 0 ∨ z.toInt = 1) then 2 else if cnS (lpB S) = 0 then 3 else 0)))), (m2, .inl (eI g, 49, .inl (fun j => nI (S j))))]) 0 0 := by
  refine ctL (cc := cX5_costs) (maxL := 4) (ret := (some .long)) (by decide) rfl (Nat.le_of_ble_eq_true rfl) ?_
  intro p_ e_ s_ m_ bl_ mt_ cd_ A ls F hnm hP hD hS hl
  obtain ⟨hx, hb, hml, hown, hts, hK, hX, hA, hrt_, hlocks⟩ := id F
  have hl : lv_has ls 4 [(0, .ref m0), (1, .int x), (2, .int y), (3, .int z)] := hl
  obtain ⟨hw40, ⟨h41a, h41b⟩, ⟨h42a, h42b⟩, h43, h44, h45, h46, h47, h48⟩ := id hO
  refine lv_iload_n hx hb dX5_costs_0 rfl (lv_at hl 1 rfl) ?_
  refine wge (tgt := 11) hx hb dX5_costs_1 (by decide) (fun c1 => ?_) (fun c1 => ?_)
  · skip
    refine lv_iload_n hx hb dX5_costs_11 rfl (lv_at hl 1 rfl) ?_
    refine lv_bipush (v := (nI 20)) hx hb dX5_costs_12 (by decide) ?_
    refine yle (tgt := 24) hx hb dX5_costs_14 (by decide) (by omega) (fun c14 => ?_) (fun c14 => ?_)
    · skip
      obtain ⟨k, hk_, rfl⟩ := natOf (x := x) (by omega)
      rw [nI_tI hk_] at c1
      rw [nI_tI hk_] at c14
      refine lv_iload_n hx hb dX5_costs_24 rfl (lv_at hl 2 rfl) ?_
      refine cSI (As := [.int y]) (rest := []) F (c_X5_isNoSecond l g y ) kX5_isNoSecond gX5_costs_X5_isNoSecond rfl rfl ⟨Nat.le_of_ble_eq_true rfl, Nat.le_of_ble_eq_true rfl⟩ hP hD hS [] [0, 1, 2] rfl rfl hl.1 rfl rfl (Nat.le_of_ble_eq_true rfl) dX5_costs_25 ⟨Nat.le_of_ble_eq_true rfl, Nat.le_of_ble_eq_true rfl⟩ (fun rz w1 H locs hpo hP hD hS => ?_)
      obtain ⟨rfl, rfl⟩ := hpo
      obtain ⟨hP, hD⟩ := nx (ws' := [(m0, .inr (5, [.ref m1, .ref m2, .ref m3, .int (nI kp), .ref m4, .ref m5, .ref m6, .ref m7, .ref m8, .int (nI rn), .ref m9, .int (nI tn), .int (nI ia), .int (nI wl), .ref m10, .ref m11, .ref m12, .int (nI si), .ref m13, .ref m14])), (m1, .inl (eI g, 7, .inl rf)), (m2, .inl (eI g, 49, .inl (fun j => nI (S j))))]) hP hD [0, 1, 2] (ndB_ok _ rfl) rfl
      refine bqeq (tgt := 37) hx hb dX5_costs_28 (by decide) (fun c28 => ?_) (fun c28 => ?_)
      · skip
        obtain ⟨k2, hk2_, rfl⟩ := natOf (x := y) (by omega)
        rw [nI_tI hk2_] at c28
        refine lv_iload_n hx hb dX5_costs_37 rfl (lv_at hl 3 rfl) ?_
        refine cSI (As := [.int z]) (rest := []) F (c_X5_isNoPart l g z ) kX5_isNoPart gX5_costs_X5_isNoPart rfl rfl ⟨Nat.le_of_ble_eq_true rfl, Nat.le_of_ble_eq_true rfl⟩ hP hD hS [] [0, 1, 2] rfl rfl hl.1 rfl rfl (Nat.le_of_ble_eq_true rfl) dX5_costs_38 ⟨Nat.le_of_ble_eq_true rfl, Nat.le_of_ble_eq_true rfl⟩ (fun rz w1 H locs hpo hP hD hS => ?_)
        obtain ⟨rfl, rfl⟩ := hpo
        obtain ⟨hP, hD⟩ := nx (ws' := [(m0, .inr (5, [.ref m1, .ref m2, .ref m3, .int (nI kp), .ref m4, .ref m5, .ref m6, .ref m7, .ref m8, .int (nI rn), .ref m9, .int (nI tn), .int (nI ia), .int (nI wl), .ref m10, .ref m11, .ref m12, .int (nI si), .ref m13, .ref m14])), (m1, .inl (eI g, 7, .inl rf)), (m2, .inl (eI g, 49, .inl (fun j => nI (S j))))]) hP hD [0, 1, 2] (ndB_ok _ rfl) rfl
        refine bqeq (tgt := 51) hx hb dX5_costs_41 (by decide) (fun c41 => ?_) (fun c41 => ?_)
        · skip
          refine lv_aload_n hx hb dX5_costs_51 rfl (lv_at hl 0 rfl) ?_
          refine cVI (As := []) (rest := []) F (c_X5_isEmpty l g m0 m1 m2 m3 m4 m5 m6 m7 m8 m9 m10 m11 m12 m13 m14 kp rn tn ia wl si S (hO)) kX5_isEmpty rfl gX5_costs_X5_isEmpty rfl rfl ⟨Nat.le_of_ble_eq_true rfl, Nat.le_of_ble_eq_true rfl⟩ hP hD hS [0, 2] [1] rfl rfl 0 rfl rfl hl.1 rfl rfl (Nat.le_of_ble_eq_true rfl) dX5_costs_52 ⟨Nat.le_of_ble_eq_true rfl, Nat.le_of_ble_eq_true rfl⟩ (fun rz w1 H locs hpo hP hD hS => ?_)
          obtain ⟨rfl, rfl⟩ := hpo
          obtain ⟨hP, hD⟩ := nx (ws' := [(m0, .inr (5, [.ref m1, .ref m2, .ref m3, .int (nI kp), .ref m4, .ref m5, .ref m6, .ref m7, .ref m8, .int (nI rn), .ref m9, .int (nI tn), .int (nI ia), .int (nI wl), .ref m10, .ref m11, .ref m12, .int (nI si), .ref m13, .ref m14])), (m1, .inl (eI g, 7, .inl rf)), (m2, .inl (eI g, 49, .inl (fun j => nI (S j))))]) hP hD [1, 0, 2] (ndB_ok _ rfl) rfl
          refine bqeq (tgt := 65) hx hb dX5_costs_55 (by decide) (fun c55 => ?_) (fun c55 => ?_)
          · skip
            have hc0 : ¬ cnS (lpB S) = 0 := fun z => c55 ((em0 S).mpr z)
            refine lv_iload_n hx hb dX5_costs_65 rfl (lv_at hl 1 rfl) ?_
            refine lv_aload_n hx hb dX5_costs_66 rfl (lv_at hl 0 rfl) ?_
            refine xget F hP inX5_costs_X5 0 rfl rfl 1 (by decide) lkX5_costs_1 rfl dX5_costs_67 ?_
            refine lv_bipush (v := (nI 44)) hx hb dX5_costs_70 (by decide) ?_
            refine xald F hP 2 (v := (nI (S 44))) rfl (by omega) (by omega) rfl dX5_costs_72 ?_
            refine xmul hx hb dX5_costs_73 ?_
            refine sti (congrArg nI (show k * (S 44) = S 44 * k from Nat.mul_comm _ _)) ?_
            refine lv_aload_n hx hb dX5_costs_74 rfl (lv_at hl 0 rfl) ?_
            refine xget F hP inX5_costs_X5 0 rfl rfl 1 (by decide) lkX5_costs_1 rfl dX5_costs_75 ?_
            refine cSI (As := [.ref m2]) (rest := [.int (nI (S 44 * k))]) F (c_X5_weight l g m2 S ) kX5_weight gX5_costs_X5_weight rfl rfl ⟨Nat.le_of_ble_eq_true rfl, Nat.le_of_ble_eq_true rfl⟩ hP hD hS [2] [0, 1] rfl rfl hl.1 rfl rfl (Nat.le_of_ble_eq_true rfl) dX5_costs_78 ⟨Nat.le_of_ble_eq_true rfl, Nat.le_of_ble_eq_true rfl⟩ (fun rz w1 H locs hpo hP hD hS => ?_)
            obtain ⟨rfl, rfl⟩ := hpo
            obtain ⟨hP, hD⟩ := nx (ws' := [(m0, .inr (5, [.ref m1, .ref m2, .ref m3, .int (nI kp), .ref m4, .ref m5, .ref m6, .ref m7, .ref m8, .int (nI rn), .ref m9, .int (nI tn), .int (nI ia), .int (nI wl), .ref m10, .ref m11, .ref m12, .int (nI si), .ref m13, .ref m14])), (m1, .inl (eI g, 7, .inl rf)), (m2, .inl (eI g, 49, .inl (fun j => nI (S j))))]) hP hD [0, 1, 2] (ndB_ok _ rfl) rfl
            refine xmul hx hb dX5_costs_81 ?_
            refine lv_aload_n hx hb dX5_costs_82 rfl (lv_at hl 0 rfl) ?_
            refine lv_aload_n hx hb dX5_costs_83 rfl (lv_at hl 0 rfl) ?_
            refine xget F hP inX5_costs_X5 0 rfl rfl 1 (by decide) lkX5_costs_1 rfl dX5_costs_84 ?_
            refine lv_iload_n hx hb dX5_costs_87 rfl (lv_at hl 2 rfl) ?_
            refine cVI (As := [.ref m2, .int (nI k2)]) (rest := [.int (nI ((S 44 * k) * (sg S 40)))]) F (nc_X5_faultsAt l g m0 m1 m2 m3 m4 m5 m6 m7 m8 m9 m10 m11 m12 m13 m14 kp rn tn ia wl si S k2 (hO) (by omega)) kX5_faultsAt rfl gX5_costs_X5_faultsAt rfl rfl ⟨Nat.le_of_ble_eq_true rfl, Nat.le_of_ble_eq_true rfl⟩ hP hD hS [0, 2] [1] rfl rfl 0 rfl rfl hl.1 rfl rfl (Nat.le_of_ble_eq_true rfl) dX5_costs_88 ⟨Nat.le_of_ble_eq_true rfl, Nat.le_of_ble_eq_true rfl⟩ (fun rz w1 H locs hpo hP hD hS => ?_)
            obtain ⟨rfl, rfl⟩ := hpo
            obtain ⟨hP, hD⟩ := nx (ws' := [(m0, .inr (5, [.ref m1, .ref m2, .ref m3, .int (nI kp), .ref m4, .ref m5, .ref m6, .ref m7, .ref m8, .int (nI rn), .ref m9, .int (nI tn), .int (nI ia), .int (nI wl), .ref m10, .ref m11, .ref m12, .int (nI si), .ref m13, .ref m14])), (m1, .inl (eI g, 7, .inl rf)), (m2, .inl (eI g, 49, .inl (fun j => nI (S j))))]) hP hD [1, 0, 2] (ndB_ok _ rfl) rfl
            have hbA := mul_le_c h44 (show k ≤ 20 by omega)
            have hbW := sgW_b hO.1
            have hbA2 := mul_le_c hbA hbW
            have hbF := faS_b2 (p := lpB S) (v := k2) hO.1 (by omega) h45
            refine xadd hx hb dX5_costs_91 ?_
            refine lv_i2l (v := lN (((S 44 * k) * (sg S 40)) + (faS S (lpB S) k2 * S 45))) hx hb dX5_costs_92 (nI_l (by omega)) ?_
            refine lv_aload_n hx hb dX5_costs_93 rfl (lv_at hl 0 rfl) ?_
            refine xget F hP inX5_costs_X5 0 rfl rfl 1 (by decide) lkX5_costs_1 rfl dX5_costs_94 ?_
            refine cSI (As := [.ref m2]) (rest := [.long (lN (((S 44 * k) * (sg S 40)) + (faS S (lpB S) k2 * S 45)))]) F (c_X5_weight l g m2 S ) kX5_weight gX5_costs_X5_weight rfl rfl ⟨Nat.le_of_ble_eq_true rfl, Nat.le_of_ble_eq_true rfl⟩ hP hD hS [2] [0, 1] rfl rfl hl.1 rfl rfl (Nat.le_of_ble_eq_true rfl) dX5_costs_97 ⟨Nat.le_of_ble_eq_true rfl, Nat.le_of_ble_eq_true rfl⟩ (fun rz w1 H locs hpo hP hD hS => ?_)
            obtain ⟨rfl, rfl⟩ := hpo
            obtain ⟨hP, hD⟩ := nx (ws' := [(m0, .inr (5, [.ref m1, .ref m2, .ref m3, .int (nI kp), .ref m4, .ref m5, .ref m6, .ref m7, .ref m8, .int (nI rn), .ref m9, .int (nI tn), .int (nI ia), .int (nI wl), .ref m10, .ref m11, .ref m12, .int (nI si), .ref m13, .ref m14])), (m1, .inl (eI g, 7, .inl rf)), (m2, .inl (eI g, 49, .inl (fun j => nI (S j))))]) hP hD [0, 1, 2] (ndB_ok _ rfl) rfl
            refine lv_i2l (v := lN (sg S 40)) hx hb dX5_costs_100 (nI_l (by omega)) ?_
            refine lv_iload_n hx hb dX5_costs_101 rfl (lv_at hl 3 rfl) ?_
            refine cSL (As := [.long (lN (((S 44 * k) * (sg S 40)) + (faS S (lpB S) k2 * S 45))), .long (lN (sg S 40)), .int z]) (rest := []) F (c_X5_fraction l g (((S 44 * k) * (sg S 40)) + (faS S (lpB S) k2 * S 45)) (sg S 40) z (by omega) (by omega) (fun z => absurd ((em0 S).mp z) hc0) (by omega)) kX5_fraction gX5_costs_X5_fraction rfl rfl ⟨Nat.le_of_ble_eq_true rfl, Nat.le_of_ble_eq_true rfl⟩ hP hD hS [] [0, 1, 2] rfl rfl hl.1 rfl rfl (Nat.le_of_ble_eq_true rfl) dX5_costs_102 ⟨Nat.le_of_ble_eq_true rfl, Nat.le_of_ble_eq_true rfl⟩ (fun rz w1 H locs hpo hP hD hS => ?_)
            obtain ⟨rfl, rfl⟩ := hpo
            obtain ⟨hP, hD⟩ := nx (ws' := [(m0, .inr (5, [.ref m1, .ref m2, .ref m3, .int (nI kp), .ref m4, .ref m5, .ref m6, .ref m7, .ref m8, .int (nI rn), .ref m9, .int (nI tn), .int (nI ia), .int (nI wl), .ref m10, .ref m11, .ref m12, .int (nI si), .ref m13, .ref m14])), (m1, .inl (eI g, 7, .inl rf)), (m2, .inl (eI g, 49, .inl (fun j => nI (S j))))]) hP hD [0, 1, 2] (ndB_ok _ rfl) rfl
            exact rtL F hP hD hS dX5_costs_105 (by rw [show (if (nI k).toInt < 0 then 4 else if 20 < (nI k).toInt then 6 else if ¬ (1 ≤ (nI k2).toInt ∧ (nI k2).toInt ≤ 40) then 1 else if ¬ (z.toInt = 0 ∨ z.toInt = 1) then 2 else if cnS (lpB S) = 0 then 3 else 0) = 0 from (by first | (exfalso; omega) | ((try simp only [nI_tI hk_, nI_tI hk2_, nI_clamp hk_, nI_clamp hk2_, true_and, and_true]); (repeat (first | rw [if_pos (by omega)] | rw [if_neg (by omega)])) <;> rfl))]; first | done | exact ⟨by first | ((try simp only [nI_tI hk_, nI_tI hk2_, nI_clamp hk_, nI_clamp hk2_, true_and, and_true, rsp_0, rspL_0, bump_0]) <;> (repeat (first | rw [if_pos (by omega)] | rw [if_neg (by omega)])) <;> rfl) | (exfalso; omega), by first | ((try simp only [nI_tI hk_, nI_tI hk2_, nI_clamp hk_, nI_clamp hk2_, true_and, and_true, rsp_0, rspL_0, bump_0]) <;> (repeat (first | rw [if_pos (by omega)] | rw [if_neg (by omega)])) <;> rfl) | (exfalso; omega)⟩)
          · skip
            have hc0 : cnS (lpB S) = 0 := (em0 S).mp c55
            refine lv_aload_n hx hb dX5_costs_58 rfl (lv_at hl 0 rfl) ?_
            refine lv_bipush (v := (-3)) hx hb dX5_costs_59 (by decide) ?_
            refine cVL (As := [.int (-3)]) (rest := []) F (c_X5_noLong l g m0 m1 m2 m3 m4 m5 m6 m7 m8 m9 m10 m11 m12 m13 m14 kp rn tn ia wl si rf (-3) 3 (by decide) (by omega) (by omega)) kX5_noLong rfl gX5_costs_X5_noLong rfl rfl ⟨Nat.le_of_ble_eq_true rfl, Nat.le_of_ble_eq_true rfl⟩ hP hD hS [0, 1] [2] rfl rfl 0 rfl rfl hl.1 rfl rfl (Nat.le_of_ble_eq_true rfl) dX5_costs_61 ⟨Nat.le_of_ble_eq_true rfl, Nat.le_of_ble_eq_true rfl⟩ (fun rz w1 H locs hpo hP hD hS => ?_)
            obtain ⟨rfl, rfl⟩ := hpo
            obtain ⟨hP, hD⟩ := nx (ws' := [(m0, .inr (5, [.ref m1, .ref m2, .ref m3, .int (nI kp), .ref m4, .ref m5, .ref m6, .ref m7, .ref m8, .int (nI rn), .ref m9, .int (nI tn), .int (nI ia), .int (nI wl), .ref m10, .ref m11, .ref m12, .int (nI si), .ref m13, .ref m14])), (m1, .inl (eI g, 7, .inl (bump rf 3))), (m2, .inl (eI g, 49, .inl (fun j => nI (S j))))]) hP hD [1, 2, 0] (ndB_ok _ rfl) rfl
            exact rtL F hP hD hS dX5_costs_64 (by rw [show (if (nI k).toInt < 0 then 4 else if 20 < (nI k).toInt then 6 else if ¬ (1 ≤ (nI k2).toInt ∧ (nI k2).toInt ≤ 40) then 1 else if ¬ (z.toInt = 0 ∨ z.toInt = 1) then 2 else if cnS (lpB S) = 0 then 3 else 0) = 3 from (by first | (exfalso; omega) | ((try simp only [nI_tI hk_, nI_tI hk2_, nI_clamp hk_, nI_clamp hk2_, true_and, and_true]); (repeat (first | rw [if_pos (by omega)] | rw [if_neg (by omega)])) <;> rfl))]; first | done | exact ⟨by rfl, by rfl⟩)
        · skip
          refine lv_aload_n hx hb dX5_costs_44 rfl (lv_at hl 0 rfl) ?_
          refine lv_bipush (v := (-2)) hx hb dX5_costs_45 (by decide) ?_
          refine cVL (As := [.int (-2)]) (rest := []) F (c_X5_noLong l g m0 m1 m2 m3 m4 m5 m6 m7 m8 m9 m10 m11 m12 m13 m14 kp rn tn ia wl si rf (-2) 2 (by decide) (by omega) (by omega)) kX5_noLong rfl gX5_costs_X5_noLong rfl rfl ⟨Nat.le_of_ble_eq_true rfl, Nat.le_of_ble_eq_true rfl⟩ hP hD hS [0, 1] [2] rfl rfl 0 rfl rfl hl.1 rfl rfl (Nat.le_of_ble_eq_true rfl) dX5_costs_47 ⟨Nat.le_of_ble_eq_true rfl, Nat.le_of_ble_eq_true rfl⟩ (fun rz w1 H locs hpo hP hD hS => ?_)
          obtain ⟨rfl, rfl⟩ := hpo
          obtain ⟨hP, hD⟩ := nx (ws' := [(m0, .inr (5, [.ref m1, .ref m2, .ref m3, .int (nI kp), .ref m4, .ref m5, .ref m6, .ref m7, .ref m8, .int (nI rn), .ref m9, .int (nI tn), .int (nI ia), .int (nI wl), .ref m10, .ref m11, .ref m12, .int (nI si), .ref m13, .ref m14])), (m1, .inl (eI g, 7, .inl (bump rf 2))), (m2, .inl (eI g, 49, .inl (fun j => nI (S j))))]) hP hD [1, 2, 0] (ndB_ok _ rfl) rfl
          exact rtL F hP hD hS dX5_costs_50 (by rw [show (if (nI k).toInt < 0 then 4 else if 20 < (nI k).toInt then 6 else if ¬ (1 ≤ (nI k2).toInt ∧ (nI k2).toInt ≤ 40) then 1 else if ¬ (z.toInt = 0 ∨ z.toInt = 1) then 2 else if cnS (lpB S) = 0 then 3 else 0) = 2 from (by first | (exfalso; omega) | ((try simp only [nI_tI hk_, nI_tI hk2_, nI_clamp hk_, nI_clamp hk2_, true_and, and_true]); (repeat (first | rw [if_pos (by omega)] | rw [if_neg (by omega)])) <;> rfl))]; first | done | exact ⟨by rfl, by rfl⟩)
      · skip
        refine lv_aload_n hx hb dX5_costs_31 rfl (lv_at hl 0 rfl) ?_
        refine lv_iconst (v := (-1)) hx hb dX5_costs_32 (by decide) ?_
        refine cVL (As := [.int (-1)]) (rest := []) F (c_X5_noLong l g m0 m1 m2 m3 m4 m5 m6 m7 m8 m9 m10 m11 m12 m13 m14 kp rn tn ia wl si rf (-1) 1 (by decide) (by omega) (by omega)) kX5_noLong rfl gX5_costs_X5_noLong rfl rfl ⟨Nat.le_of_ble_eq_true rfl, Nat.le_of_ble_eq_true rfl⟩ hP hD hS [0, 1] [2] rfl rfl 0 rfl rfl hl.1 rfl rfl (Nat.le_of_ble_eq_true rfl) dX5_costs_33 ⟨Nat.le_of_ble_eq_true rfl, Nat.le_of_ble_eq_true rfl⟩ (fun rz w1 H locs hpo hP hD hS => ?_)
        obtain ⟨rfl, rfl⟩ := hpo
        obtain ⟨hP, hD⟩ := nx (ws' := [(m0, .inr (5, [.ref m1, .ref m2, .ref m3, .int (nI kp), .ref m4, .ref m5, .ref m6, .ref m7, .ref m8, .int (nI rn), .ref m9, .int (nI tn), .int (nI ia), .int (nI wl), .ref m10, .ref m11, .ref m12, .int (nI si), .ref m13, .ref m14])), (m1, .inl (eI g, 7, .inl (bump rf 1))), (m2, .inl (eI g, 49, .inl (fun j => nI (S j))))]) hP hD [1, 2, 0] (ndB_ok _ rfl) rfl
        exact rtL F hP hD hS dX5_costs_36 (by rw [show (if (nI k).toInt < 0 then 4 else if 20 < (nI k).toInt then 6 else if ¬ (1 ≤ y.toInt ∧ y.toInt ≤ 40) then 1 else if ¬ (z.toInt = 0 ∨ z.toInt = 1) then 2 else if cnS (lpB S) = 0 then 3 else 0) = 1 from (by first | (exfalso; omega) | ((try simp only [nI_tI hk_, nI_clamp hk_, true_and, and_true]); (repeat (first | rw [if_pos (by omega)] | rw [if_neg (by omega)])) <;> rfl))]; first | done | exact ⟨by rfl, by rfl⟩)
    · skip
      refine lv_aload_n hx hb dX5_costs_17 rfl (lv_at hl 0 rfl) ?_
      refine lv_bipush (v := (-6)) hx hb dX5_costs_18 (by decide) ?_
      refine cVL (As := [.int (-6)]) (rest := []) F (c_X5_noLong l g m0 m1 m2 m3 m4 m5 m6 m7 m8 m9 m10 m11 m12 m13 m14 kp rn tn ia wl si rf (-6) 6 (by decide) (by omega) (by omega)) kX5_noLong rfl gX5_costs_X5_noLong rfl rfl ⟨Nat.le_of_ble_eq_true rfl, Nat.le_of_ble_eq_true rfl⟩ hP hD hS [0, 1] [2] rfl rfl 0 rfl rfl hl.1 rfl rfl (Nat.le_of_ble_eq_true rfl) dX5_costs_20 ⟨Nat.le_of_ble_eq_true rfl, Nat.le_of_ble_eq_true rfl⟩ (fun rz w1 H locs hpo hP hD hS => ?_)
      obtain ⟨rfl, rfl⟩ := hpo
      obtain ⟨hP, hD⟩ := nx (ws' := [(m0, .inr (5, [.ref m1, .ref m2, .ref m3, .int (nI kp), .ref m4, .ref m5, .ref m6, .ref m7, .ref m8, .int (nI rn), .ref m9, .int (nI tn), .int (nI ia), .int (nI wl), .ref m10, .ref m11, .ref m12, .int (nI si), .ref m13, .ref m14])), (m1, .inl (eI g, 7, .inl (bump rf 6))), (m2, .inl (eI g, 49, .inl (fun j => nI (S j))))]) hP hD [1, 2, 0] (ndB_ok _ rfl) rfl
      exact rtL F hP hD hS dX5_costs_23 (by rw [show (if x.toInt < 0 then 4 else if 20 < x.toInt then 6 else if ¬ (1 ≤ y.toInt ∧ y.toInt ≤ 40) then 1 else if ¬ (z.toInt = 0 ∨ z.toInt = 1) then 2 else if cnS (lpB S) = 0 then 3 else 0) = 6 from (by first | (exfalso; omega) | ((try simp only [true_and, and_true]); (repeat (first | rw [if_pos (by omega)] | rw [if_neg (by omega)])) <;> rfl))]; first | done | exact ⟨by rfl, by rfl⟩)
  · skip
    refine lv_aload_n hx hb dX5_costs_4 rfl (lv_at hl 0 rfl) ?_
    refine lv_bipush (v := (-4)) hx hb dX5_costs_5 (by decide) ?_
    refine cVL (As := [.int (-4)]) (rest := []) F (c_X5_noLong l g m0 m1 m2 m3 m4 m5 m6 m7 m8 m9 m10 m11 m12 m13 m14 kp rn tn ia wl si rf (-4) 4 (by decide) (by omega) (by omega)) kX5_noLong rfl gX5_costs_X5_noLong rfl rfl ⟨Nat.le_of_ble_eq_true rfl, Nat.le_of_ble_eq_true rfl⟩ hP hD hS [0, 1] [2] rfl rfl 0 rfl rfl hl.1 rfl rfl (Nat.le_of_ble_eq_true rfl) dX5_costs_7 ⟨Nat.le_of_ble_eq_true rfl, Nat.le_of_ble_eq_true rfl⟩ (fun rz w1 H locs hpo hP hD hS => ?_)
    obtain ⟨rfl, rfl⟩ := hpo
    obtain ⟨hP, hD⟩ := nx (ws' := [(m0, .inr (5, [.ref m1, .ref m2, .ref m3, .int (nI kp), .ref m4, .ref m5, .ref m6, .ref m7, .ref m8, .int (nI rn), .ref m9, .int (nI tn), .int (nI ia), .int (nI wl), .ref m10, .ref m11, .ref m12, .int (nI si), .ref m13, .ref m14])), (m1, .inl (eI g, 7, .inl (bump rf 4))), (m2, .inl (eI g, 49, .inl (fun j => nI (S j))))]) hP hD [1, 2, 0] (ndB_ok _ rfl) rfl
    exact rtL F hP hD hS dX5_costs_10 (by rw [show (if x.toInt < 0 then 4 else if 20 < x.toInt then 6 else if ¬ (1 ≤ y.toInt ∧ y.toInt ≤ 40) then 1 else if ¬ (z.toInt = 0 ∨ z.toInt = 1) then 2 else if cnS (lpB S) = 0 then 3 else 0) = 4 from (by first | (exfalso; omega) | ((try simp only [true_and, and_true]); (repeat (first | rw [if_pos (by omega)] | rw [if_neg (by omega)])) <;> rfl))]; first | done | exact ⟨by rfl, by rfl⟩)
