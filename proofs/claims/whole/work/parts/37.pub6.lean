theorem inX4_worth_X4 : ∀ w ∈ u_ws RX4 TX4 10, w ∈ wsX4_worth := fun _ h => (List.mem_cons_of_mem _ (List.mem_append_left _ (List.mem_append_left _ (List.mem_append_left _ (List.mem_append_right _ h)))))
theorem lkX4_worth_1 : Cond.fieldLink RX4 10 "StripInFiveSteps" "now" "LStripInFiveSteps$Shed;" ∈ wsX4_worth := List.mem_of_getElem? (i := 1) rfl
theorem lkX4_worth_2 : Cond.fieldLink RX4 90 "StripInFiveSteps" "GREATEST" "[I" ∈ wsX4_worth := List.mem_of_getElem? (i := 2) rfl
theorem kX4_worth : Cal yX4_worth wsX4_worth cX4_worth 8 (some .int) 0 := ⟨⟨_, rfl⟩, by decide +kernel⟩
set_option maxHeartbeats 4000000 in
set_option maxRecDepth 100000 in
theorem c_X4_worth (l : Launch) (g : EE) (x0 : Nat) (h0 : Nat) (d0 : Nat) (k0 : Nat) (b0 : Nat) (a0 : Nat) (t0 : Nat) (r0 : Nat) (r1 : Nat) (ik : Nat) (rn : Nat) (h1 : Nat) (h2 : Nat) (W : Nat → Nat) (B : Nat → Nat) (sk : Nat) (ek : Nat) (tr : Nat) (a1 : Nat) (a2 : Nat) (a3 : Nat) (a4 : Nat) (a5 : Nat) (T : Nat → Int64) (ka : Nat) (Lb : Nat → Nat) (q2 : Nat → Nat) (n2 : Nat) (rf : Nat → Int32) (hW : ∀ j, W j ≤ 9) (hB : okB B) (hsk : sk ≤ 3) (hek : ek ≤ 4) (hC : Cch T Lb) : CI l yX4_worth wsX4_worth ({ frames := 6, cells := 0, slots := 0, locals := 152 }) g [.ref x0] [(x0, .inr (4, [.ref h0, .ref d0, .ref k0, .int (nI ik), .ref b0, .ref a0, .ref t0, .ref r0, .int (nI rn), .ref r1])), (h0, .inr (0, [.ref h1, .ref h2, .int (nI sk), .int (nI ek), .int (nI tr)])), (h1, .inl (eI g, 41, .inl (fun j => nI (W j)))), (h2, .inl (eI g, 5, .inl (fun j => nI (B j)))), (a0, .inr (2, [.ref a1, .ref a2, .ref a3, .int (nI ka), .ref a5])), (a1, .inl (eJ g, 1476, .inr (.inl T))), (a2, .inl (eI g, 4, .inl (fun j => nI (Lb j)))), (a3, .inr (1, [.ref a4, .int (nI n2)])), (a4, .inl (eI g, 7, .inl (fun j => nI (q2 j)))), (r1, .inl (eI g, 7, .inl rf))] (fun (rz : Int32) (wz : va_W) => ∃ T9 : Nat → Int64, ∃ ka9 : Nat, ∃ Lb9 : Nat → Nat, ∃ q9 : Nat → Nat, ∃ n9 : Nat, rz = (rsp (if cnS (lpB W) = 0 then 3 else 0) (wr (sg W 40) (faS W (lpB W) (giS W (lpB W) (B 4)) * (B 4)) (fbS (tlT B sk ek) W (lpB W) (B 4) (bv (tlT B sk ek) (lpB W))) 100)) ∧ wz = [(x0, .inr (4, [.ref h0, .ref d0, .ref k0, .int (nI ik), .ref b0, .ref a0, .ref t0, .ref r0, .int (nI rn), .ref r1])), (h0, .inr (0, [.ref h1, .ref h2, .int (nI sk), .int (nI ek), .int (nI tr)])), (h1, .inl (eI g, 41, .inl (fun j => nI (W j)))), (h2, .inl (eI g, 5, .inl (fun j => nI (B j)))), (a0, .inr (2, [.ref a1, .ref a2, .ref a3, .int (nI ka9), .ref a5])), (a1, .inl (eJ g, 1476, .inr (.inl T9))), (a2, .inl (eI g, 4, .inl (fun j => nI (Lb9 j)))), (a3, .inr (1, [.ref a4, .int (nI n9)])), (a4, .inl (eI g, 7, .inl (fun j => nI (q9 j)))), (r1, .inl (eI g, 7, .inl (bump rf (if cnS (lpB W) = 0 then 3 else 0))))] ∧ Cch T9 Lb9) 0 0 := by
  refine ctI (cc := cX4_worth) (maxL := 8) (ret := (some .int)) (by decide) rfl (Nat.le_of_ble_eq_true rfl) ?_
  intro p_ e_ s_ m_ bl_ mt_ cd_ A ls F hnm hP hD hS hl
  obtain ⟨hx, hb, hml, hown, hts, hK, hX, hA, hrt_, hlocks⟩ := id F
  have hl : lv_has ls 8 [(0, .ref x0)] := hl
  obtain ⟨hb0, hb1, hb2, hb3, hb4, hb5⟩ := okB_b hB
  refine lv_aload_n hx hb dX4_worth_0 rfl (lv_at hl 0 rfl) ?_
  refine xget F hP inX4_worth_X4 0 rfl rfl 0 (by decide) lkX4_worth_1 rfl dX4_worth_1 ?_
  refine cVL (As := []) (rest := []) F (c_X0_left l g h0 h1 h2 W B sk ek tr (hW)) kX0_left rfl gX4_worth_X0_left rfl rfl ⟨Nat.le_of_ble_eq_true rfl, Nat.le_of_ble_eq_true rfl⟩ hP hD hS [1, 2, 3] [0, 4, 5, 6, 7, 8, 9] rfl rfl 0 rfl rfl hl.1 rfl rfl (Nat.le_of_ble_eq_true rfl) dX4_worth_4 ⟨Nat.le_of_ble_eq_true rfl, Nat.le_of_ble_eq_true rfl⟩ (fun rz w1 H locs hpo hP hD hS => ?_)
  obtain ⟨rfl, rfl⟩ := hpo
  obtain ⟨hP, hD⟩ := nx (ws' := [(x0, .inr (4, [.ref h0, .ref d0, .ref k0, .int (nI ik), .ref b0, .ref a0, .ref t0, .ref r0, .int (nI rn), .ref r1])), (h0, .inr (0, [.ref h1, .ref h2, .int (nI sk), .int (nI ek), .int (nI tr)])), (h1, .inl (eI g, 41, .inl (fun j => nI (W j)))), (h2, .inl (eI g, 5, .inl (fun j => nI (B j)))), (a0, .inr (2, [.ref a1, .ref a2, .ref a3, .int (nI ka), .ref a5])), (a1, .inl (eJ g, 1476, .inr (.inl T))), (a2, .inl (eI g, 4, .inl (fun j => nI (Lb j)))), (a3, .inr (1, [.ref a4, .int (nI n2)])), (a4, .inl (eI g, 7, .inl (fun j => nI (q2 j)))), (r1, .inl (eI g, 7, .inl rf))]) hP hD [0, 7, 8, 9, 1, 2, 3, 4, 5, 6] (ndB_ok _ rfl) rfl
  refine lv_lstore_n (lv' := [(1, .long (lfM W)), (0, .ref x0)]) hx hb dX4_worth_7 rfl hl (by decide) rfl (fun ls hl => ?_)
  refine lv_lload_n hx hb dX4_worth_8 rfl (lv_at hl 0 rfl) ?_
  refine lv_lconst (v := lN 0) hx hb dX4_worth_9 rfl ?_
  refine jne (tgt := 21) hx hb dX4_worth_10 dX4_worth_11 (by decide) (fun c11 => ?_) (fun c11 => ?_)
  · skip
    have hc0 : ¬ cnS (lpB W) = 0 := fun z => c11 ((lf0 W).mpr z)
    refine lv_aload_n hx hb dX4_worth_21 rfl (lv_at hl 1 rfl) ?_
    refine xget F hP inX4_worth_X4 0 rfl rfl 0 (by decide) lkX4_worth_1 rfl dX4_worth_22 ?_
    refine lv_lload_n hx hb dX4_worth_25 rfl (lv_at hl 0 rfl) ?_
    refine cVI (As := [.long (lfM W)]) (rest := []) F (c_X0_weightOf l g h0 h1 h2 W B sk ek tr (lfM W) ) kX0_weightOf rfl gX4_worth_X0_weightOf rfl rfl ⟨Nat.le_of_ble_eq_true rfl, Nat.le_of_ble_eq_true rfl⟩ hP hD hS [1, 2, 3] [0, 4, 5, 6, 7, 8, 9] rfl rfl 0 rfl rfl hl.1 rfl rfl (Nat.le_of_ble_eq_true rfl) dX4_worth_26 ⟨Nat.le_of_ble_eq_true rfl, Nat.le_of_ble_eq_true rfl⟩ (fun rz w1 H locs hpo hP hD hS => ?_)
    obtain ⟨rfl, rfl⟩ := hpo
    obtain ⟨hP, hD⟩ := nx (ws' := [(x0, .inr (4, [.ref h0, .ref d0, .ref k0, .int (nI ik), .ref b0, .ref a0, .ref t0, .ref r0, .int (nI rn), .ref r1])), (h0, .inr (0, [.ref h1, .ref h2, .int (nI sk), .int (nI ek), .int (nI tr)])), (h1, .inl (eI g, 41, .inl (fun j => nI (W j)))), (h2, .inl (eI g, 5, .inl (fun j => nI (B j)))), (a0, .inr (2, [.ref a1, .ref a2, .ref a3, .int (nI ka), .ref a5])), (a1, .inl (eJ g, 1476, .inr (.inl T))), (a2, .inl (eI g, 4, .inl (fun j => nI (Lb j)))), (a3, .inr (1, [.ref a4, .int (nI n2)])), (a4, .inl (eI g, 7, .inl (fun j => nI (q2 j)))), (r1, .inl (eI g, 7, .inl rf))]) hP hD [0, 7, 8, 9, 1, 2, 3, 4, 5, 6] (ndB_ok _ rfl) rfl
    refine sti (congrArg nI (show wtS W (bitL (lfM W)) = sg W 40 from by rw [bitL_lfM, wtS_lp])) ?_
    refine lv_i2l (v := lN (sg W 40)) hx hb dX4_worth_29 (nI_l (by have := sgW_b (W := W) (fun j _ => hW j); omega)) ?_
    refine lv_lstore_n (lv' := [(3, .long (lN (sg W 40))), (1, .long (lfM W)), (0, .ref x0)]) hx hb dX4_worth_30 rfl hl (by decide) rfl (fun ls hl => ?_)
    refine lv_aload_n hx hb dX4_worth_31 rfl (lv_at hl 2 rfl) ?_
    refine xget F hP inX4_worth_X4 0 rfl rfl 0 (by decide) lkX4_worth_1 rfl dX4_worth_32 ?_
    refine lv_lload_n hx hb dX4_worth_35 rfl (lv_at hl 1 rfl) ?_
    refine cVL (As := [.long (lfM W)]) (rest := []) F (c_X0_leastFaults l g h0 h1 h2 W B sk ek tr (lfM W) (hW) (by omega)) kX0_leastFaults rfl gX4_worth_X0_leastFaults rfl rfl ⟨Nat.le_of_ble_eq_true rfl, Nat.le_of_ble_eq_true rfl⟩ hP hD hS [1, 2, 3] [0, 4, 5, 6, 7, 8, 9] rfl rfl 0 rfl rfl hl.1 rfl rfl (Nat.le_of_ble_eq_true rfl) dX4_worth_36 ⟨Nat.le_of_ble_eq_true rfl, Nat.le_of_ble_eq_true rfl⟩ (fun rz w1 H locs hpo hP hD hS => ?_)
    obtain ⟨rfl, rfl⟩ := hpo
    obtain ⟨hP, hD⟩ := nx (ws' := [(x0, .inr (4, [.ref h0, .ref d0, .ref k0, .int (nI ik), .ref b0, .ref a0, .ref t0, .ref r0, .int (nI rn), .ref r1])), (h0, .inr (0, [.ref h1, .ref h2, .int (nI sk), .int (nI ek), .int (nI tr)])), (h1, .inl (eI g, 41, .inl (fun j => nI (W j)))), (h2, .inl (eI g, 5, .inl (fun j => nI (B j)))), (a0, .inr (2, [.ref a1, .ref a2, .ref a3, .int (nI ka), .ref a5])), (a1, .inl (eJ g, 1476, .inr (.inl T))), (a2, .inl (eI g, 4, .inl (fun j => nI (Lb j)))), (a3, .inr (1, [.ref a4, .int (nI n2)])), (a4, .inl (eI g, 7, .inl (fun j => nI (q2 j)))), (r1, .inl (eI g, 7, .inl rf))]) hP hD [0, 7, 8, 9, 1, 2, 3, 4, 5, 6] (ndB_ok _ rfl) rfl
    refine stl (congrArg lN (show faS W (bitL (lfM W)) (giS W (bitL (lfM W)) (B 4)) * B 4 = faS W (lpB W) (giS W (lpB W) (B 4)) * B 4 from by rw [bitL_lfM])) ?_
    refine lv_aload_n hx hb dX4_worth_39 rfl (lv_at hl 2 rfl) ?_
    refine lv_lload_n hx hb dX4_worth_40 rfl (lv_at hl 1 rfl) ?_
    refine cVL (As := [.long (lfM W)]) (rest := [.long (lN (faS W (lpB W) (giS W (lpB W) (B 4)) * B 4))]) F (c_X4_faultsBehindStrip l g x0 h0 d0 k0 b0 a0 t0 r0 r1 ik rn h1 h2 W B sk ek tr a1 a2 a3 a4 a5 T ka Lb q2 n2 (lfM W) (hC) (hB) (hek) (hsk) (inS_lf W) (hW)) kX4_faultsBehindStrip rfl gX4_worth_X4_faultsBehindStrip rfl rfl ⟨Nat.le_of_ble_eq_true rfl, Nat.le_of_ble_eq_true rfl⟩ hP hD hS [0, 1, 2, 3, 4, 5, 6, 7, 8] [9] rfl rfl 0 rfl rfl hl.1 rfl rfl (Nat.le_of_ble_eq_true rfl) dX4_worth_41 ⟨Nat.le_of_ble_eq_true rfl, Nat.le_of_ble_eq_true rfl⟩ (fun rz w1 H locs hpo hP hD hS => ?_)
    obtain ⟨T9_4, Lb9_4, q9_4, n9_4, rfl, rfl, hpo4⟩ := hpo
    obtain ⟨hP, hD⟩ := nx (ws' := [(x0, .inr (4, [.ref h0, .ref d0, .ref k0, .int (nI ik), .ref b0, .ref a0, .ref t0, .ref r0, .int (nI rn), .ref r1])), (h0, .inr (0, [.ref h1, .ref h2, .int (nI sk), .int (nI ek), .int (nI tr)])), (h1, .inl (eI g, 41, .inl (fun j => nI (W j)))), (h2, .inl (eI g, 5, .inl (fun j => nI (B j)))), (a0, .inr (2, [.ref a1, .ref a2, .ref a3, .int (nI (sk * 369)), .ref a5])), (a1, .inl (eJ g, 1476, .inr (.inl T9_4))), (a2, .inl (eI g, 4, .inl (fun j => nI (Lb9_4 j)))), (a3, .inr (1, [.ref a4, .int (nI n9_4)])), (a4, .inl (eI g, 7, .inl (fun j => nI (q9_4 j)))), (r1, .inl (eI g, 7, .inl rf))]) hP hD [1, 2, 3, 4, 5, 6, 7, 8, 9, 0] (ndB_ok _ rfl) rfl
    have hC9 := hpo4
    refine stl (congrArg lN (show fbS (tlT B sk ek) W (bitL (lfM W)) (B 4) (bv (tlT B sk ek) (bitL (lfM W))) = fbS (tlT B sk ek) W (lpB W) (B 4) (bv (tlT B sk ek) (lpB W)) from by rw [bitL_lfM])) ?_
    have hbA := mul_le_c (show B 3 ≤ 99 by omega) (sgW_b (W := W) (fun j _ => hW j))
    have hbF := fbS_b (t := (tlT B sk ek)) (p := lpB W) (v := bv (tlT B sk ek) (lpB W)) hW (show B 4 ≤ 99 by omega)
    have hbL := faS_b (p := lpB W) hW (giS_in W (lpB W) (B 4)).2 (show B 4 ≤ 99 by omega)
    have hbW := sgW_b (W := W) (fun j _ => hW j)
    refine lv_lsub hx hb dX4_worth_44 ?_
    refine lv_lstore (lv' := [(5, .long ((lN (faS W (lpB W) (giS W (lpB W) (B 4)) * B 4)) - (lN (fbS (tlT B sk ek) W (lpB W) (B 4) (bv (tlT B sk ek) (lpB W)))))), (3, .long (lN (sg W 40))), (1, .long (lfM W)), (0, .ref x0)]) hx hb dX4_worth_45 hl (by decide) rfl (fun ls hl => ?_)
    refine xgG F hS lkX4_worth_2 dX4_worth_47 ?_
    refine lv_iconst (v := (nI 3)) hx hb dX4_worth_50 (by decide) ?_
    refine xtG F hS (by omega) dX4_worth_51 ?_
    have hbd4 := greatN_le 3
    refine sti (congrArg nI (show greatN 3 = 99 from rfl)) ?_
    refine lv_istore (lv' := [(7, .int (nI 99)), (5, .long ((lN (faS W (lpB W) (giS W (lpB W) (B 4)) * B 4)) - (lN (fbS (tlT B sk ek) W (lpB W) (B 4) (bv (tlT B sk ek) (lpB W)))))), (3, .long (lN (sg W 40))), (1, .long (lfM W)), (0, .ref x0)]) hx hb dX4_worth_52 hl (by decide) rfl (fun ls hl => ?_)
    refine xlo (σ := Int32 × Nat) 8 (fun xz_ => (fun (z : Int32) (n : Nat) => [(0, .ref x0), (1, .long (lfM W)), (3, .long (lN (sg W 40))), (5, .long (lN (faS W (lpB W) (giS W (lpB W) (B 4)) * B 4) - lN (fbS (tlT B sk ek) W (lpB W) (B 4) (bv (tlT B sk ek) (lpB W))))), (7, .int z)]) xz_.1 xz_.2) (fun xz_ => (fun (z : Int32) (n : Nat) => [(x0, .inr (4, [.ref h0, .ref d0, .ref k0, .int (nI ik), .ref b0, .ref a0, .ref t0, .ref r0, .int (nI rn), .ref r1])), (h0, .inr (0, [.ref h1, .ref h2, .int (nI sk), .int (nI ek), .int (nI tr)])), (h1, .inl (eI g, 41, .inl (fun j => nI (W j)))), (h2, .inl (eI g, 5, .inl (fun j => nI (B j)))), (a0, .inr (2, [.ref a1, .ref a2, .ref a3, .int (nI (sk * 369)), .ref a5])), (a1, .inl (eJ g, 1476, .inr (.inl T9_4))), (a2, .inl (eI g, 4, .inl (fun j => nI (Lb9_4 j)))), (a3, .inr (1, [.ref a4, .int (nI n9_4)])), (a4, .inl (eI g, 7, .inl (fun j => nI (q9_4 j)))), (r1, .inl (eI g, 7, .inl rf))]) xz_.1 xz_.2) (fun xz_ => (fun (z : Int32) (n : Nat) => z = pz n ∧ n ≤ 100 ∧ wr (sg W 40) (faS W (lpB W) (giS W (lpB W) (B 4)) * (B 4)) (fbS (tlT B sk ek) W (lpB W) (B 4) (bv (tlT B sk ek) (lpB W))) 100 = wr (sg W 40) (faS W (lpB W) (giS W (lpB W) (B 4)) * B 4) (fbS (tlT B sk ek) W (lpB W) (B 4) (bv (tlT B sk ek) (lpB W))) n) xz_.1 xz_.2) (fun xz_ => (fun (z : Int32) (n : Nat) => n) xz_.1 xz_.2) (fun xz_ hI ih54 H locs ls hP hD hS hl => ?_) ((nI 99), 100) (show (nI 99) = pz 100 ∧ 100 ≤ 100 ∧ wr (sg W 40) (faS W (lpB W) (giS W (lpB W) (B 4)) * (B 4)) (fbS (tlT B sk ek) W (lpB W) (B 4) (bv (tlT B sk ek) (lpB W))) 100 = wr (sg W 40) (faS W (lpB W) (giS W (lpB W) (B 4)) * B 4) (fbS (tlT B sk ek) W (lpB W) (B 4) (bv (tlT B sk ek) (lpB W))) 100 from (⟨rfl, by omega, rfl⟩)) hP hD hS (lv_sub hl [4, 3, 2, 1, 0] rfl)
    obtain ⟨z, n⟩ := xz_
    have hP : va_P (eD g) vwCl [(x0, .inr (4, [.ref h0, .ref d0, .ref k0, .int (nI ik), .ref b0, .ref a0, .ref t0, .ref r0, .int (nI rn), .ref r1])), (h0, .inr (0, [.ref h1, .ref h2, .int (nI sk), .int (nI ek), .int (nI tr)])), (h1, .inl (eI g, 41, .inl (fun j => nI (W j)))), (h2, .inl (eI g, 5, .inl (fun j => nI (B j)))), (a0, .inr (2, [.ref a1, .ref a2, .ref a3, .int (nI (sk * 369)), .ref a5])), (a1, .inl (eJ g, 1476, .inr (.inl T9_4))), (a2, .inl (eI g, 4, .inl (fun j => nI (Lb9_4 j)))), (a3, .inr (1, [.ref a4, .int (nI n9_4)])), (a4, .inl (eI g, 7, .inl (fun j => nI (q9_4 j)))), (r1, .inl (eI g, 7, .inl rf))] H := hP
    have hD : va_D A [(x0, .inr (4, [.ref h0, .ref d0, .ref k0, .int (nI ik), .ref b0, .ref a0, .ref t0, .ref r0, .int (nI rn), .ref r1])), (h0, .inr (0, [.ref h1, .ref h2, .int (nI sk), .int (nI ek), .int (nI tr)])), (h1, .inl (eI g, 41, .inl (fun j => nI (W j)))), (h2, .inl (eI g, 5, .inl (fun j => nI (B j)))), (a0, .inr (2, [.ref a1, .ref a2, .ref a3, .int (nI (sk * 369)), .ref a5])), (a1, .inl (eJ g, 1476, .inr (.inl T9_4))), (a2, .inl (eI g, 4, .inl (fun j => nI (Lb9_4 j)))), (a3, .inr (1, [.ref a4, .int (nI n9_4)])), (a4, .inl (eI g, 7, .inl (fun j => nI (q9_4 j)))), (r1, .inl (eI g, 7, .inl rf))] := hD
    have hl : lv_has ls 8 [(0, .ref x0), (1, .long (lfM W)), (3, .long (lN (sg W 40))), (5, .long (lN (faS W (lpB W) (giS W (lpB W) (B 4)) * B 4) - lN (fbS (tlT B sk ek) W (lpB W) (B 4) (bv (tlT B sk ek) (lpB W))))), (7, .int z)] := hl
    have hI54 : z = pz n ∧ n ≤ 100 ∧ wr (sg W 40) (faS W (lpB W) (giS W (lpB W) (B 4)) * (B 4)) (fbS (tlT B sk ek) W (lpB W) (B 4) (bv (tlT B sk ek) (lpB W))) 100 = wr (sg W 40) (faS W (lpB W) (giS W (lpB W) (B 4)) * B 4) (fbS (tlT B sk ek) W (lpB W) (B 4) (bv (tlT B sk ek) (lpB W))) n := hI
    clear hI
    obtain ⟨hz, hn, hwr⟩ := id hI54
    rcases (show n = 0 ∨ ∃ j, n = j + 1 from by cases n with | zero => exact Or.inl rfl | succ j => exact Or.inr ⟨j, rfl⟩) with hnj | ⟨j, hnj⟩
    · rw [hnj] at hz hwr
      subst hz
      have hl : lv_has ls 8 [(0, .ref x0), (1, .long (lfM W)), (3, .long (lN (sg W 40))), (5, .long (lN (faS W (lpB W) (giS W (lpB W) (B 4)) * B 4) - lN (fbS (tlT B sk ek) W (lpB W) (B 4) (bv (tlT B sk ek) (lpB W))))), (7, .int (-1))] := hl
      refine lv_iload hx hb dX4_worth_54 (lv_at hl 4 rfl) ?_
      refine wlt (tgt := 76) hx hb dX4_worth_56 (by decide) (fun c => ?_) (fun c => absurd c (by decide))
      refine lv_iload hx hb dX4_worth_76 (lv_at hl 4 rfl) ?_
      refine wlt (tgt := 86) hx hb dX4_worth_78 (by decide) (fun c => ?_) (fun c => absurd c (by decide))
      refine lv_bipush (v := (-9)) hx hb dX4_worth_86 (by decide) ?_
      exact rtI F hP hD hS dX4_worth_88 (by rw [show (if cnS (lpB W) = 0 then 3 else 0) = 0 from (by rw [if_neg hc0])]; exact ⟨_, _, _, _, _, by rw [rsp_0, hwr]; rfl, rfl, hC9⟩)
    · rw [hnj] at hz hwr
      subst hz
      have hl : lv_has ls 8 [(0, .ref x0), (1, .long (lfM W)), (3, .long (lN (sg W 40))), (5, .long (lN (faS W (lpB W) (giS W (lpB W) (B 4)) * B 4) - lN (fbS (tlT B sk ek) W (lpB W) (B 4) (bv (tlT B sk ek) (lpB W))))), (7, .int (nI j))] := hl
      refine lv_iload hx hb dX4_worth_54 (lv_at hl 4 rfl) ?_
      refine zlt (tgt := 76) hx hb dX4_worth_56 (by decide) (by omega) ?_
      refine lv_iload hx hb dX4_worth_59 (lv_at hl 4 rfl) ?_
      refine lv_i2l (v := lN j) hx hb dX4_worth_61 (nI_l (by omega)) ?_
      have hjw := mul_le_c (show j ≤ 99 by omega) hbW
      refine lv_lload_n hx hb dX4_worth_62 rfl (lv_at hl 2 rfl) ?_
      refine xlmul hx hb dX4_worth_63 ?_
      refine lv_lload hx hb dX4_worth_64 (lv_at hl 3 rfl) ?_
      refine jlt (tgt := 76) hx hb dX4_worth_66 dX4_worth_67 (by decide) (fun c67 => ?_) (fun c67 => ?_)
      · skip
        refine lv_iload hx hb dX4_worth_76 (lv_at hl 4 rfl) ?_
        refine zlt (tgt := 86) hx hb dX4_worth_78 (by decide) (by omega) ?_
        refine lv_iload hx hb dX4_worth_81 (lv_at hl 4 rfl) ?_
        refine lv_goto (tgt := 88) hx hb dX4_worth_83 (by decide) ?_
        exact rtI F hP hD hS dX4_worth_88 (by rw [show (if cnS (lpB W) = 0 then 3 else 0) = 0 from (by rw [if_neg hc0])]; exact ⟨_, _, _, _, _, by rw [rsp_0, hwr]; exact (wr_yes ((lN_lt_sub (by omega) (by omega) (by omega)).mp c67)).symm, rfl, hC9⟩)
      · skip
        refine lv_iinc (v := (pz j)) (lv' := [(7, .int (pz j)), (0, .ref x0), (1, .long (lfM W)), (3, .long (lN (sg W 40))), (5, .long (lN (faS W (lpB W) (giS W (lpB W) (B 4)) * B 4) - lN (fbS (tlT B sk ek) W (lpB W) (B 4) (bv (tlT B sk ek) (lpB W)))))]) hx hb dX4_worth_70 hl (k := 4) rfl (iincZ j) (by decide) rfl (fun ls hl => ?_)
        refine lv_goto (tgt := 54) hx hb dX4_worth_73 (by decide) ?_
        exact ih54 ((pz j), j) (show (pz j) = pz j ∧ j ≤ 100 ∧ wr (sg W 40) (faS W (lpB W) (giS W (lpB W) (B 4)) * (B 4)) (fbS (tlT B sk ek) W (lpB W) (B 4) (bv (tlT B sk ek) (lpB W))) 100 = wr (sg W 40) (faS W (lpB W) (giS W (lpB W) (B 4)) * B 4) (fbS (tlT B sk ek) W (lpB W) (B 4) (bv (tlT B sk ek) (lpB W))) j from (⟨rfl, by omega, wr_no hwr (fun q => c67 ((lN_lt_sub (by omega) (by omega) (by omega)).mpr q))⟩)) (show j < n from (by omega)) _ _ _ hP hD hS (lv_sub hl [1, 2, 3, 4, 0] rfl)
  · skip
    have hc0 : cnS (lpB W) = 0 := (lf0 W).mp c11
    refine lv_aload_n hx hb dX4_worth_14 rfl (lv_at hl 1 rfl) ?_
    refine lv_bipush (v := (-3)) hx hb dX4_worth_15 (by decide) ?_
    refine cVI (As := [.int (-3)]) (rest := []) F (c_X4_refuse l g x0 h0 d0 k0 b0 a0 t0 r0 r1 ik rn rf (-3) 3 (by decide) (by omega) (by omega)) kX4_refuse rfl gX4_worth_X4_refuse rfl rfl ⟨Nat.le_of_ble_eq_true rfl, Nat.le_of_ble_eq_true rfl⟩ hP hD hS [0, 9] [1, 2, 3, 4, 5, 6, 7, 8] rfl rfl 0 rfl rfl hl.1 rfl rfl (Nat.le_of_ble_eq_true rfl) dX4_worth_17 ⟨Nat.le_of_ble_eq_true rfl, Nat.le_of_ble_eq_true rfl⟩ (fun rz w1 H locs hpo hP hD hS => ?_)
    obtain ⟨rfl, rfl⟩ := hpo
    obtain ⟨hP, hD⟩ := nx (ws' := [(x0, .inr (4, [.ref h0, .ref d0, .ref k0, .int (nI ik), .ref b0, .ref a0, .ref t0, .ref r0, .int (nI rn), .ref r1])), (h0, .inr (0, [.ref h1, .ref h2, .int (nI sk), .int (nI ek), .int (nI tr)])), (h1, .inl (eI g, 41, .inl (fun j => nI (W j)))), (h2, .inl (eI g, 5, .inl (fun j => nI (B j)))), (a0, .inr (2, [.ref a1, .ref a2, .ref a3, .int (nI ka), .ref a5])), (a1, .inl (eJ g, 1476, .inr (.inl T))), (a2, .inl (eI g, 4, .inl (fun j => nI (Lb j)))), (a3, .inr (1, [.ref a4, .int (nI n2)])), (a4, .inl (eI g, 7, .inl (fun j => nI (q2 j)))), (r1, .inl (eI g, 7, .inl (bump rf 3)))]) hP hD [8, 0, 1, 2, 3, 4, 5, 6, 7, 9] (ndB_ok _ rfl) rfl
    exact rtI F hP hD hS dX4_worth_20 (by rw [show (if cnS (lpB W) = 0 then 3 else 0) = 3 from (by first | (exfalso; omega) | ((try simp only [true_and, and_true]); (repeat (first | rw [if_pos (by omega)] | rw [if_neg (by omega)])) <;> rfl))]; first | done | exact ⟨T, ka, Lb, q2, n2, by rfl, by rfl, hC⟩)

theorem inX5_worth_X5 : ∀ w ∈ u_ws RX5 TX5 20, w ∈ wsX5_worth := fun _ h => (List.mem_cons_of_mem _ (List.mem_append_right _ h))
theorem lkX5_worth_1 : Cond.fieldLink RX5 19 "StripInFiveStepsModel" "now" "[I" ∈ wsX5_worth := List.mem_of_getElem? (i := 1) rfl
theorem kX5_worth : Cal yX5_worth wsX5_worth cX5_worth 3 (some .int) 0 := ⟨⟨_, rfl⟩, by decide +kernel⟩
set_option maxHeartbeats 4000000 in
set_option maxRecDepth 100000 in
theorem c_X5_worth (l : Launch) (g : EE) (m0 : Nat) (m1 : Nat) (m2 : Nat) (m3 : Nat) (m4 : Nat) (m5 : Nat) (m6 : Nat) (m7 : Nat) (m8 : Nat) (m9 : Nat) (m10 : Nat) (m11 : Nat) (m12 : Nat) (m13 : Nat) (m14 : Nat) (kp : Nat) (rn : Nat) (tn : Nat) (ia : Nat) (wl : Nat) (si : Nat) (S : Nat → Nat) (O : Nat → Int32) (Y : Nat → Nat) (Z : Nat → Nat) (M : Nat → Nat) (rf : Nat → Int32) (hO : okS S) : CI l yX5_worth wsX5_worth ({ frames := 9, cells := 0, slots := 0, locals := 209 }) g [.ref m0] [(m0, .inr (5, [.ref m1, .ref m2, .ref m3, .int (nI kp), .ref m4, .ref m5, .ref m6, .ref m7, .ref m8, .int (nI rn), .ref m9, .int (nI tn), .int (nI ia), .int (nI wl), .ref m10, .ref m11, .ref m12, .int (nI si), .ref m13, .ref m14])), (m2, .inl (eI g, 49, .inl (fun j => nI (S j)))), (m4, .inl (eI g, 41, .inl O)), (m5, .inl (eI g, 9, .inl (fun j => nI (Y j)))), (m6, .inl (eI g, 9, .inl (fun j => nI (Z j)))), (m7, .inl (eI g, 49, .inl (fun j => nI (M j)))), (m1, .inl (eI g, 7, .inl rf))] (fun (rz : Int32) (wz : va_W) => ∃ O9 : Nat → Int32, ∃ Y9 : Nat → Nat, ∃ Z9 : Nat → Nat, ∃ M9 : Nat → Nat, rz = (rsp (if cnS (lpB S) = 0 then 3 else 0) (wr (sg S 40) (faS S (lpB S) (giS S (lpB S) (S 45)) * (S 45)) (fbS (tlS S) S (lpB S) (S 45) (bv (tlS S) (lpB S))) 100)) ∧ wz = [(m0, .inr (5, [.ref m1, .ref m2, .ref m3, .int (nI kp), .ref m4, .ref m5, .ref m6, .ref m7, .ref m8, .int (nI rn), .ref m9, .int (nI tn), .int (nI ia), .int (nI wl), .ref m10, .ref m11, .ref m12, .int (nI si), .ref m13, .ref m14])), (m2, .inl (eI g, 49, .inl (fun j => nI (S j)))), (m4, .inl (eI g, 41, .inl O9)), (m5, .inl (eI g, 9, .inl (fun j => nI (Y9 j)))), (m6, .inl (eI g, 9, .inl (fun j => nI (Z9 j)))), (m7, .inl (eI g, 49, .inl (fun j => nI (M9 j)))), (m1, .inl (eI g, 7, .inl (bump rf (if cnS (lpB S) = 0 then 3 else 0))))]) 0 0 := by
  refine ctI (cc := cX5_worth) (maxL := 3) (ret := (some .int)) (by decide) rfl (Nat.le_of_ble_eq_true rfl) ?_
  intro p_ e_ s_ m_ bl_ mt_ cd_ A ls F hnm hP hD hS hl
  obtain ⟨hx, hb, hml, hown, hts, hK, hX, hA, hrt_, hlocks⟩ := id F
  have hl : lv_has ls 3 [(0, .ref m0)] := hl
  obtain ⟨hw40, ⟨h41a, h41b⟩, ⟨h42a, h42b⟩, h43, h44, h45, h46, h47, h48⟩ := id hO
  refine lv_aload_n hx hb dX5_worth_0 rfl (lv_at hl 0 rfl) ?_
  refine cVI (As := []) (rest := []) F (c_X5_isEmpty l g m0 m1 m2 m3 m4 m5 m6 m7 m8 m9 m10 m11 m12 m13 m14 kp rn tn ia wl si S (hO)) kX5_isEmpty rfl gX5_worth_X5_isEmpty rfl rfl ⟨Nat.le_of_ble_eq_true rfl, Nat.le_of_ble_eq_true rfl⟩ hP hD hS [0, 1] [2, 3, 4, 5, 6] rfl rfl 0 rfl rfl hl.1 rfl rfl (Nat.le_of_ble_eq_true rfl) dX5_worth_1 ⟨Nat.le_of_ble_eq_true rfl, Nat.le_of_ble_eq_true rfl⟩ (fun rz w1 H locs hpo hP hD hS => ?_)
  obtain ⟨rfl, rfl⟩ := hpo
  obtain ⟨hP, hD⟩ := nx (ws' := [(m0, .inr (5, [.ref m1, .ref m2, .ref m3, .int (nI kp), .ref m4, .ref m5, .ref m6, .ref m7, .ref m8, .int (nI rn), .ref m9, .int (nI tn), .int (nI ia), .int (nI wl), .ref m10, .ref m11, .ref m12, .int (nI si), .ref m13, .ref m14])), (m2, .inl (eI g, 49, .inl (fun j => nI (S j)))), (m4, .inl (eI g, 41, .inl O)), (m5, .inl (eI g, 9, .inl (fun j => nI (Y j)))), (m6, .inl (eI g, 9, .inl (fun j => nI (Z j)))), (m7, .inl (eI g, 49, .inl (fun j => nI (M j)))), (m1, .inl (eI g, 7, .inl rf))]) hP hD [5, 6, 0, 1, 2, 3, 4] (ndB_ok _ rfl) rfl
  refine bqeq (tgt := 14) hx hb dX5_worth_4 (by decide) (fun c4 => ?_) (fun c4 => ?_)
  · skip
    have hc0 : ¬ cnS (lpB S) = 0 := fun z => c4 ((em0 S).mpr z)
    refine lv_aload_n hx hb dX5_worth_14 rfl (lv_at hl 0 rfl) ?_
    refine lv_aload_n hx hb dX5_worth_15 rfl (lv_at hl 0 rfl) ?_
    refine xget F hP inX5_worth_X5 0 rfl rfl 1 (by decide) lkX5_worth_1 rfl dX5_worth_16 ?_
    refine lv_aload_n hx hb dX5_worth_19 rfl (lv_at hl 0 rfl) ?_
    refine lv_aload_n hx hb dX5_worth_20 rfl (lv_at hl 0 rfl) ?_
    refine xget F hP inX5_worth_X5 0 rfl rfl 1 (by decide) lkX5_worth_1 rfl dX5_worth_21 ?_
    refine cVI (As := [.ref m2]) (rest := [.ref m2, .ref m0]) F (nc_X5_giveBy l g m0 m1 m2 m3 m4 m5 m6 m7 m8 m9 m10 m11 m12 m13 m14 kp rn tn ia wl si S (hO)) kX5_giveBy rfl gX5_worth_X5_giveBy rfl rfl ⟨Nat.le_of_ble_eq_true rfl, Nat.le_of_ble_eq_true rfl⟩ hP hD hS [0, 1] [2, 3, 4, 5, 6] rfl rfl 0 rfl rfl hl.1 rfl rfl (Nat.le_of_ble_eq_true rfl) dX5_worth_24 ⟨Nat.le_of_ble_eq_true rfl, Nat.le_of_ble_eq_true rfl⟩ (fun rz w1 H locs hpo hP hD hS => ?_)
    obtain ⟨rfl, rfl⟩ := hpo
    obtain ⟨hP, hD⟩ := nx (ws' := [(m0, .inr (5, [.ref m1, .ref m2, .ref m3, .int (nI kp), .ref m4, .ref m5, .ref m6, .ref m7, .ref m8, .int (nI rn), .ref m9, .int (nI tn), .int (nI ia), .int (nI wl), .ref m10, .ref m11, .ref m12, .int (nI si), .ref m13, .ref m14])), (m2, .inl (eI g, 49, .inl (fun j => nI (S j)))), (m4, .inl (eI g, 41, .inl O)), (m5, .inl (eI g, 9, .inl (fun j => nI (Y j)))), (m6, .inl (eI g, 9, .inl (fun j => nI (Z j)))), (m7, .inl (eI g, 49, .inl (fun j => nI (M j)))), (m1, .inl (eI g, 7, .inl rf))]) hP hD [5, 6, 0, 1, 2, 3, 4] (ndB_ok _ rfl) rfl
    refine cVI (As := [.ref m2, .int (nI (giS S (lpB S) (S 45)))]) (rest := []) F (nc_X5_faultsAt l g m0 m1 m2 m3 m4 m5 m6 m7 m8 m9 m10 m11 m12 m13 m14 kp rn tn ia wl si S (giS S (lpB S) (S 45)) (hO) ((giS_in _ _ _).2)) kX5_faultsAt rfl gX5_worth_X5_faultsAt rfl rfl ⟨Nat.le_of_ble_eq_true rfl, Nat.le_of_ble_eq_true rfl⟩ hP hD hS [0, 1] [2, 3, 4, 5, 6] rfl rfl 0 rfl rfl hl.1 rfl rfl (Nat.le_of_ble_eq_true rfl) dX5_worth_27 ⟨Nat.le_of_ble_eq_true rfl, Nat.le_of_ble_eq_true rfl⟩ (fun rz w1 H locs hpo hP hD hS => ?_)
    obtain ⟨rfl, rfl⟩ := hpo
    obtain ⟨hP, hD⟩ := nx (ws' := [(m0, .inr (5, [.ref m1, .ref m2, .ref m3, .int (nI kp), .ref m4, .ref m5, .ref m6, .ref m7, .ref m8, .int (nI rn), .ref m9, .int (nI tn), .int (nI ia), .int (nI wl), .ref m10, .ref m11, .ref m12, .int (nI si), .ref m13, .ref m14])), (m2, .inl (eI g, 49, .inl (fun j => nI (S j)))), (m4, .inl (eI g, 41, .inl O)), (m5, .inl (eI g, 9, .inl (fun j => nI (Y j)))), (m6, .inl (eI g, 9, .inl (fun j => nI (Z j)))), (m7, .inl (eI g, 49, .inl (fun j => nI (M j)))), (m1, .inl (eI g, 7, .inl rf))]) hP hD [5, 6, 0, 1, 2, 3, 4] (ndB_ok _ rfl) rfl
    refine lv_aload_n hx hb dX5_worth_30 rfl (lv_at hl 0 rfl) ?_
    refine cVI (As := []) (rest := [.int (nI (faS S (lpB S) (giS S (lpB S) (S 45)) * S 45))]) F (c_X5_faultsBehind l g m0 m1 m2 m3 m4 m5 m6 m7 m8 m9 m10 m11 m12 m13 m14 kp rn tn ia wl si S O Y Z M (hO)) kX5_faultsBehind rfl gX5_worth_X5_faultsBehind rfl rfl ⟨Nat.le_of_ble_eq_true rfl, Nat.le_of_ble_eq_true rfl⟩ hP hD hS [0, 1, 2, 3, 4, 5] [6] rfl rfl 0 rfl rfl hl.1 rfl rfl (Nat.le_of_ble_eq_true rfl) dX5_worth_31 ⟨Nat.le_of_ble_eq_true rfl, Nat.le_of_ble_eq_true rfl⟩ (fun rz w1 H locs hpo hP hD hS => ?_)
    obtain ⟨O9_4, Y9_4, Z9_4, M9_4, rfl, rfl⟩ := hpo
    obtain ⟨hP, hD⟩ := nx (ws' := [(m0, .inr (5, [.ref m1, .ref m2, .ref m3, .int (nI kp), .ref m4, .ref m5, .ref m6, .ref m7, .ref m8, .int (nI rn), .ref m9, .int (nI tn), .int (nI ia), .int (nI wl), .ref m10, .ref m11, .ref m12, .int (nI si), .ref m13, .ref m14])), (m2, .inl (eI g, 49, .inl (fun j => nI (S j)))), (m4, .inl (eI g, 41, .inl O9_4)), (m5, .inl (eI g, 9, .inl (fun j => nI (Y9_4 j)))), (m6, .inl (eI g, 9, .inl (fun j => nI (Z9_4 j)))), (m7, .inl (eI g, 49, .inl (fun j => nI (M9_4 j)))), (m1, .inl (eI g, 7, .inl rf))]) hP hD [1, 2, 3, 4, 5, 6, 0] (ndB_ok _ rfl) rfl
    have hbA := mul_le_c h44 (sgW_b hO.1)
    have hbF := fbS_b2 (t := tlS S) (p := lpB S) (v := bv (tlS S) (lpB S)) hO.1 h45
    have hbL := faS_b2 (p := lpB S) hO.1 (giS_in S (lpB S) (S 45)).2 h45
    have hbW := sgW_b hO.1
    refine lv_isub hx hb dX5_worth_34 ?_
    refine lv_istore_n (lv' := [(1, .int (nI (faS S (lpB S) (giS S (lpB S) (S 45)) * S 45) - nI (fbS (tlS S) S (lpB S) (S 45) (bv (tlS S) (lpB S))))), (0, .ref m0)]) hx hb dX5_worth_35 rfl hl (by decide) rfl (fun ls hl => ?_)
    refine lv_bipush (v := (nI 99)) hx hb dX5_worth_36 (by decide) ?_
    refine lv_istore_n (lv' := [(2, .int (nI 99)), (1, .int (nI (faS S (lpB S) (giS S (lpB S) (S 45)) * S 45) - nI (fbS (tlS S) S (lpB S) (S 45) (bv (tlS S) (lpB S))))), (0, .ref m0)]) hx hb dX5_worth_38 rfl hl (by decide) rfl (fun ls hl => ?_)
    refine xlo (σ := Int32 × Nat × (Nat → Int32) × (Nat → Nat) × (Nat → Nat) × (Nat → Nat)) 3 (fun xz_ => (fun (z : Int32) (n : Nat) (o : Nat → Int32) (y2 : Nat → Nat) (z2 : Nat → Nat) (m_ : Nat → Nat) => [(0, .ref m0), (1, .int (nI (faS S (lpB S) (giS S (lpB S) (S 45)) * S 45) - nI (fbS (tlS S) S (lpB S) (S 45) (bv (tlS S) (lpB S))))), (2, .int z)]) xz_.1 xz_.2.1 xz_.2.2.1 xz_.2.2.2.1 xz_.2.2.2.2.1 xz_.2.2.2.2.2) (fun xz_ => (fun (z : Int32) (n : Nat) (o : Nat → Int32) (y2 : Nat → Nat) (z2 : Nat → Nat) (m_ : Nat → Nat) => [(m0, .inr (5, [.ref m1, .ref m2, .ref m3, .int (nI kp), .ref m4, .ref m5, .ref m6, .ref m7, .ref m8, .int (nI rn), .ref m9, .int (nI tn), .int (nI ia), .int (nI wl), .ref m10, .ref m11, .ref m12, .int (nI si), .ref m13, .ref m14])), (m2, .inl (eI g, 49, .inl (fun j => nI (S j)))), (m4, .inl (eI g, 41, .inl o)), (m5, .inl (eI g, 9, .inl (fun j => nI (y2 j)))), (m6, .inl (eI g, 9, .inl (fun j => nI (z2 j)))), (m7, .inl (eI g, 49, .inl (fun j => nI (m_ j)))), (m1, .inl (eI g, 7, .inl rf))]) xz_.1 xz_.2.1 xz_.2.2.1 xz_.2.2.2.1 xz_.2.2.2.2.1 xz_.2.2.2.2.2) (fun xz_ => (fun (z : Int32) (n : Nat) (o : Nat → Int32) (y2 : Nat → Nat) (z2 : Nat → Nat) (m_ : Nat → Nat) => z = pz n ∧ n ≤ 100 ∧ wr (sg S 40) (faS S (lpB S) (giS S (lpB S) (S 45)) * (S 45)) (fbS (tlS S) S (lpB S) (S 45) (bv (tlS S) (lpB S))) 100 = wr (sg S 40) (faS S (lpB S) (giS S (lpB S) (S 45)) * S 45) (fbS (tlS S) S (lpB S) (S 45) (bv (tlS S) (lpB S))) n) xz_.1 xz_.2.1 xz_.2.2.1 xz_.2.2.2.1 xz_.2.2.2.2.1 xz_.2.2.2.2.2) (fun xz_ => (fun (z : Int32) (n : Nat) (o : Nat → Int32) (y2 : Nat → Nat) (z2 : Nat → Nat) (m_ : Nat → Nat) => n) xz_.1 xz_.2.1 xz_.2.2.1 xz_.2.2.2.1 xz_.2.2.2.2.1 xz_.2.2.2.2.2) (fun xz_ hI ih39 H locs ls hP hD hS hl => ?_) ((nI 99), 100, O9_4, Y9_4, Z9_4, M9_4) (show (nI 99) = pz 100 ∧ 100 ≤ 100 ∧ wr (sg S 40) (faS S (lpB S) (giS S (lpB S) (S 45)) * (S 45)) (fbS (tlS S) S (lpB S) (S 45) (bv (tlS S) (lpB S))) 100 = wr (sg S 40) (faS S (lpB S) (giS S (lpB S) (S 45)) * S 45) (fbS (tlS S) S (lpB S) (S 45) (bv (tlS S) (lpB S))) 100 from (⟨rfl, by omega, rfl⟩)) hP hD hS (lv_sub hl [2, 1, 0] rfl)
    obtain ⟨z, n, o, y2, z2, m_⟩ := xz_
    have hP : va_P (eD g) vwCl [(m0, .inr (5, [.ref m1, .ref m2, .ref m3, .int (nI kp), .ref m4, .ref m5, .ref m6, .ref m7, .ref m8, .int (nI rn), .ref m9, .int (nI tn), .int (nI ia), .int (nI wl), .ref m10, .ref m11, .ref m12, .int (nI si), .ref m13, .ref m14])), (m2, .inl (eI g, 49, .inl (fun j => nI (S j)))), (m4, .inl (eI g, 41, .inl o)), (m5, .inl (eI g, 9, .inl (fun j => nI (y2 j)))), (m6, .inl (eI g, 9, .inl (fun j => nI (z2 j)))), (m7, .inl (eI g, 49, .inl (fun j => nI (m_ j)))), (m1, .inl (eI g, 7, .inl rf))] H := hP
    have hD : va_D A [(m0, .inr (5, [.ref m1, .ref m2, .ref m3, .int (nI kp), .ref m4, .ref m5, .ref m6, .ref m7, .ref m8, .int (nI rn), .ref m9, .int (nI tn), .int (nI ia), .int (nI wl), .ref m10, .ref m11, .ref m12, .int (nI si), .ref m13, .ref m14])), (m2, .inl (eI g, 49, .inl (fun j => nI (S j)))), (m4, .inl (eI g, 41, .inl o)), (m5, .inl (eI g, 9, .inl (fun j => nI (y2 j)))), (m6, .inl (eI g, 9, .inl (fun j => nI (z2 j)))), (m7, .inl (eI g, 49, .inl (fun j => nI (m_ j)))), (m1, .inl (eI g, 7, .inl rf))] := hD
    have hl : lv_has ls 3 [(0, .ref m0), (1, .int (nI (faS S (lpB S) (giS S (lpB S) (S 45)) * S 45) - nI (fbS (tlS S) S (lpB S) (S 45) (bv (tlS S) (lpB S))))), (2, .int z)] := hl
    have hI39 : z = pz n ∧ n ≤ 100 ∧ wr (sg S 40) (faS S (lpB S) (giS S (lpB S) (S 45)) * (S 45)) (fbS (tlS S) S (lpB S) (S 45) (bv (tlS S) (lpB S))) 100 = wr (sg S 40) (faS S (lpB S) (giS S (lpB S) (S 45)) * S 45) (fbS (tlS S) S (lpB S) (S 45) (bv (tlS S) (lpB S))) n := hI
    clear hI
    obtain ⟨hz, hn, hwr⟩ := id hI39
    rcases (show n = 0 ∨ ∃ j, n = j + 1 from by cases n with | zero => exact Or.inl rfl | succ j => exact Or.inr ⟨j, rfl⟩) with hnj | ⟨j, hnj⟩
    · rw [hnj] at hz hwr
      subst hz
      have hl : lv_has ls 3 [(0, .ref m0), (1, .int (nI (faS S (lpB S) (giS S (lpB S) (S 45)) * S 45) - nI (fbS (tlS S) S (lpB S) (S 45) (bv (tlS S) (lpB S))))), (2, .int (-1))] := hl
      refine lv_iload_n hx hb dX5_worth_39 rfl (lv_at hl 2 rfl) ?_
      refine wlt (tgt := 62) hx hb dX5_worth_40 (by decide) (fun c => ?_) (fun c => absurd c (by decide))
      refine lv_iload_n hx hb dX5_worth_62 rfl (lv_at hl 2 rfl) ?_
      refine wge (tgt := 71) hx hb dX5_worth_63 (by decide) (fun c => absurd c (by decide)) (fun c => ?_)
      refine lv_bipush (v := (-9)) hx hb dX5_worth_66 (by decide) ?_
      refine lv_goto (tgt := 72) hx hb dX5_worth_68 (by decide) ?_
      exact rtI F hP hD hS dX5_worth_72 (by rw [show (if cnS (lpB S) = 0 then 3 else 0) = 0 from (by rw [if_neg hc0])]; exact ⟨_, _, _, _, by rw [rsp_0, hwr]; rfl, rfl⟩)
    · rw [hnj] at hz hwr
      subst hz
      have hl : lv_has ls 3 [(0, .ref m0), (1, .int (nI (faS S (lpB S) (giS S (lpB S) (S 45)) * S 45) - nI (fbS (tlS S) S (lpB S) (S 45) (bv (tlS S) (lpB S))))), (2, .int (nI j))] := hl
      refine lv_iload_n hx hb dX5_worth_39 rfl (lv_at hl 2 rfl) ?_
      refine zlt (tgt := 62) hx hb dX5_worth_40 (by decide) (by omega) ?_
      have hjw := mul_le_c (show j ≤ 99 by omega) hbW
      refine lv_iload_n hx hb dX5_worth_43 rfl (lv_at hl 2 rfl) ?_
      refine lv_aload_n hx hb dX5_worth_44 rfl (lv_at hl 0 rfl) ?_
      refine xget F hP inX5_worth_X5 0 rfl rfl 1 (by decide) lkX5_worth_1 rfl dX5_worth_45 ?_
      refine cSI (As := [.ref m2]) (rest := [.int (nI j)]) F (c_X5_weight l g m2 S ) kX5_weight gX5_worth_X5_weight rfl rfl ⟨Nat.le_of_ble_eq_true rfl, Nat.le_of_ble_eq_true rfl⟩ hP hD hS [1] [0, 2, 3, 4, 5, 6] rfl rfl hl.1 rfl rfl (Nat.le_of_ble_eq_true rfl) dX5_worth_48 ⟨Nat.le_of_ble_eq_true rfl, Nat.le_of_ble_eq_true rfl⟩ (fun rz w1 H locs hpo hP hD hS => ?_)
      obtain ⟨rfl, rfl⟩ := hpo
      obtain ⟨hP, hD⟩ := nx (ws' := [(m0, .inr (5, [.ref m1, .ref m2, .ref m3, .int (nI kp), .ref m4, .ref m5, .ref m6, .ref m7, .ref m8, .int (nI rn), .ref m9, .int (nI tn), .int (nI ia), .int (nI wl), .ref m10, .ref m11, .ref m12, .int (nI si), .ref m13, .ref m14])), (m2, .inl (eI g, 49, .inl (fun j => nI (S j)))), (m4, .inl (eI g, 41, .inl o)), (m5, .inl (eI g, 9, .inl (fun j => nI (y2 j)))), (m6, .inl (eI g, 9, .inl (fun j => nI (z2 j)))), (m7, .inl (eI g, 49, .inl (fun j => nI (m_ j)))), (m1, .inl (eI g, 7, .inl rf))]) hP hD [0, 6, 1, 2, 3, 4, 5] (ndB_ok _ rfl) rfl
      refine xmul hx hb dX5_worth_51 ?_
      refine lv_iload_n hx hb dX5_worth_52 rfl (lv_at hl 1 rfl) ?_
      refine lv_icmp_lt (tgt := 62) hx hb dX5_worth_53 (by decide) (fun c53 => ?_) (fun c53 => ?_)
      · skip
        refine lv_iload_n hx hb dX5_worth_62 rfl (lv_at hl 2 rfl) ?_
        refine zge (tgt := 71) hx hb dX5_worth_63 (by decide) (by omega) ?_
        refine lv_iload_n hx hb dX5_worth_71 rfl (lv_at hl 2 rfl) ?_
        exact rtI F hP hD hS dX5_worth_72 (by rw [show (if cnS (lpB S) = 0 then 3 else 0) = 0 from (by rw [if_neg hc0])]; exact ⟨_, _, _, _, by rw [rsp_0, hwr]; exact (wr_yes ((nI_lt_sub (by omega) (by omega) (by omega)).mp c53)).symm, rfl⟩)
      · skip
        refine lv_iinc (v := (pz j)) (lv' := [(2, .int (pz j)), (0, .ref m0), (1, .int (nI (faS S (lpB S) (giS S (lpB S) (S 45)) * S 45) - nI (fbS (tlS S) S (lpB S) (S 45) (bv (tlS S) (lpB S)))))]) hx hb dX5_worth_56 hl (k := 2) rfl (iincZ j) (by decide) rfl (fun ls hl => ?_)
        refine lv_goto (tgt := 39) hx hb dX5_worth_59 (by decide) ?_
        exact ih39 ((pz j), j, o, y2, z2, m_) (show (pz j) = pz j ∧ j ≤ 100 ∧ wr (sg S 40) (faS S (lpB S) (giS S (lpB S) (S 45)) * (S 45)) (fbS (tlS S) S (lpB S) (S 45) (bv (tlS S) (lpB S))) 100 = wr (sg S 40) (faS S (lpB S) (giS S (lpB S) (S 45)) * S 45) (fbS (tlS S) S (lpB S) (S 45) (bv (tlS S) (lpB S))) j from (⟨rfl, by omega, wr_no hwr (fun q => c53 ((nI_lt_sub (by omega) (by omega) (by omega)).mpr q))⟩)) (show j < n from (by omega)) _ _ _ hP hD hS (lv_sub hl [1, 2, 0] rfl)
  · skip
    have hc0 : cnS (lpB S) = 0 := (em0 S).mp c4
    refine lv_aload_n hx hb dX5_worth_7 rfl (lv_at hl 0 rfl) ?_
    refine lv_bipush (v := (-3)) hx hb dX5_worth_8 (by decide) ?_
    refine cVI (As := [.int (-3)]) (rest := []) F (c_X5_no l g m0 m1 m2 m3 m4 m5 m6 m7 m8 m9 m10 m11 m12 m13 m14 kp rn tn ia wl si rf (-3) 3 (by decide) (by omega) (by omega)) kX5_no rfl gX5_worth_X5_no rfl rfl ⟨Nat.le_of_ble_eq_true rfl, Nat.le_of_ble_eq_true rfl⟩ hP hD hS [0, 6] [1, 2, 3, 4, 5] rfl rfl 0 rfl rfl hl.1 rfl rfl (Nat.le_of_ble_eq_true rfl) dX5_worth_10 ⟨Nat.le_of_ble_eq_true rfl, Nat.le_of_ble_eq_true rfl⟩ (fun rz w1 H locs hpo hP hD hS => ?_)
    obtain ⟨rfl, rfl⟩ := hpo
    obtain ⟨hP, hD⟩ := nx (ws' := [(m0, .inr (5, [.ref m1, .ref m2, .ref m3, .int (nI kp), .ref m4, .ref m5, .ref m6, .ref m7, .ref m8, .int (nI rn), .ref m9, .int (nI tn), .int (nI ia), .int (nI wl), .ref m10, .ref m11, .ref m12, .int (nI si), .ref m13, .ref m14])), (m2, .inl (eI g, 49, .inl (fun j => nI (S j)))), (m4, .inl (eI g, 41, .inl O)), (m5, .inl (eI g, 9, .inl (fun j => nI (Y j)))), (m6, .inl (eI g, 9, .inl (fun j => nI (Z j)))), (m7, .inl (eI g, 49, .inl (fun j => nI (M j)))), (m1, .inl (eI g, 7, .inl (bump rf 3)))]) hP hD [5, 0, 1, 2, 3, 4, 6] (ndB_ok _ rfl) rfl
    exact rtI F hP hD hS dX5_worth_13 (by rw [show (if cnS (lpB S) = 0 then 3 else 0) = 3 from (by first | (exfalso; omega) | ((try simp only [true_and, and_true]); (repeat (first | rw [if_pos (by omega)] | rw [if_neg (by omega)])) <;> rfl))]; first | done | exact ⟨_, _, _, _, by rfl, by rfl⟩)
