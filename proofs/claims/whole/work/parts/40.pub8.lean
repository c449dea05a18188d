theorem inX4_enough_X4 : ∀ w ∈ u_ws RX4 TX4 10, w ∈ wsX4_enough := fun _ h => (List.mem_cons_of_mem _ (List.mem_append_left _ (List.mem_append_left _ (List.mem_append_left _ (List.mem_append_right _ h)))))
theorem lkX4_enough_1 : Cond.fieldLink RX4 10 "StripInFiveSteps" "now" "LStripInFiveSteps$Shed;" ∈ wsX4_enough := List.mem_of_getElem? (i := 1) rfl
theorem lkX4_enough_2 : Cond.fieldLink RX4 36 "StripInFiveSteps" "strips" "LStripInFiveSteps$Strips;" ∈ wsX4_enough := List.mem_of_getElem? (i := 2) rfl
theorem inX4_enough_X0 : ∀ w ∈ u_ws RX0 TX0 5, w ∈ wsX4_enough := fun _ h => (List.mem_cons_of_mem _ (List.mem_append_left _ (List.mem_append_left _ (List.mem_append_right _ h))))
theorem lkX4_enough_3 : Cond.fieldLink RX4 99 "StripInFiveSteps$Shed" "stripKind" "I" ∈ wsX4_enough := List.mem_of_getElem? (i := 3) rfl
theorem inX4_enough_X2 : ∀ w ∈ u_ws RX2 TX2 5, w ∈ wsX4_enough := fun _ h => (List.mem_cons_of_mem _ (List.mem_append_left _ (List.mem_append_right _ h)))
theorem lkX4_enough_4 : Cond.fieldLink RX4 198 "StripInFiveSteps$Strips" "enoughFor" "[I" ∈ wsX4_enough := List.mem_of_getElem? (i := 4) rfl
theorem kX4_enough : Cal yX4_enough wsX4_enough cX4_enough 4 (some .int) 1 := ⟨⟨_, rfl⟩, by decide +kernel⟩
set_option maxHeartbeats 1000000 in
set_option maxRecDepth 100000 in
theorem c_X4_enough (l : Launch) (g : EE) (x0 : Nat) (h0 : Nat) (d0 : Nat) (k0 : Nat) (b0 : Nat) (a0 : Nat) (t0 : Nat) (r0 : Nat) (r1 : Nat) (ik : Nat) (rn : Nat) (h1 : Nat) (h2 : Nat) (W : Nat → Nat) (B : Nat → Nat) (sk : Nat) (ek : Nat) (tr : Nat) (a1 : Nat) (a2 : Nat) (a3 : Nat) (a4 : Nat) (a5 : Nat) (T : Nat → Int64) (ka : Nat) (Lb : Nat → Nat) (q2 : Nat → Nat) (n2 : Nat) (E : Nat → Int32) (rf : Nat → Int32) (x : Int32) (hW : ∀ j, W j ≤ 9) (hB : okB B) (hsk : sk ≤ 3) (hek : ek ≤ 4) (hC : Cch T Lb) : CI l yX4_enough wsX4_enough ({ frames := 18, cells := 0, slots := 0, locals := 507 }) g [.ref x0, .int x] [(x0, .inr (4, [.ref h0, .ref d0, .ref k0, .int (nI ik), .ref b0, .ref a0, .ref t0, .ref r0, .int (nI rn), .ref r1])), (h0, .inr (0, [.ref h1, .ref h2, .int (nI sk), .int (nI ek), .int (nI tr)])), (h1, .inl (eI g, 41, .inl (fun j => nI (W j)))), (h2, .inl (eI g, 5, .inl (fun j => nI (B j)))), (a0, .inr (2, [.ref a1, .ref a2, .ref a3, .int (nI ka), .ref a5])), (a1, .inl (eJ g, 1476, .inr (.inl T))), (a2, .inl (eI g, 4, .inl (fun j => nI (Lb j)))), (a3, .inr (1, [.ref a4, .int (nI n2)])), (a4, .inl (eI g, 7, .inl (fun j => nI (q2 j)))), (a5, .inl (eI g, 41, .inl E)), (r1, .inl (eI g, 7, .inl rf))] (fun (rz : Int32) (wz : va_W) => ∃ T9 : Nat → Int64, ∃ ka9 : Nat, ∃ Lb9 : Nat → Nat, ∃ q9 : Nat → Nat, ∃ n9 : Nat, ∃ E9 : Nat → Int32, rz = (rsp (if ¬ (1 ≤ x.toInt ∧ x.toInt ≤ 40) then 1 else if (lpB W) x.toNatClampNeg = true then 0 else 3) (enS (tlT B sk ek) 12 (lpB W) 0 x.toNatClampNeg)) ∧ wz = [(x0, .inr (4, [.ref h0, .ref d0, .ref k0, .int (nI ik), .ref b0, .ref a0, .ref t0, .ref r0, .int (nI rn), .ref r1])), (h0, .inr (0, [.ref h1, .ref h2, .int (nI sk), .int (nI ek), .int (nI tr)])), (h1, .inl (eI g, 41, .inl (fun j => nI (W j)))), (h2, .inl (eI g, 5, .inl (fun j => nI (B j)))), (a0, .inr (2, [.ref a1, .ref a2, .ref a3, .int (nI ka9), .ref a5])), (a1, .inl (eJ g, 1476, .inr (.inl T9))), (a2, .inl (eI g, 4, .inl (fun j => nI (Lb9 j)))), (a3, .inr (1, [.ref a4, .int (nI n9)])), (a4, .inl (eI g, 7, .inl (fun j => nI (q9 j)))), (a5, .inl (eI g, 41, .inl E9)), (r1, .inl (eI g, 7, .inl (bump rf (if ¬ (1 ≤ x.toInt ∧ x.toInt ≤ 40) then 1 else if (lpB W) x.toNatClampNeg = true then 0 else 3))))] ∧ Cch T9 Lb9) 0 0 := by
  refine ctI (cc := cX4_enough) (maxL := 4) (ret := (some .int)) (by decide) rfl (Nat.le_of_ble_eq_true rfl) ?_
  intro p_ e_ s_ m_ bl_ mt_ cd_ A ls F hnm hP hD hS hl
  obtain ⟨hx, hb, hml, hown, hts, hK, hX, hA, hrt_, hlocks⟩ := id F
  have hl : lv_has ls 4 [(0, .ref x0), (1, .int x)] := hl
  obtain ⟨hb0, hb1, hb2, hb3, hb4, hb5⟩ := okB_b hB
  refine lv_iload_n hx hb dX4_enough_0 rfl (lv_at hl 1 rfl) ?_
  refine cSI (As := [.int x]) (rest := []) F (c_X4_isSecond l g x ) kX4_isSecond gX4_enough_X4_isSecond rfl rfl ⟨Nat.le_of_ble_eq_true rfl, Nat.le_of_ble_eq_true rfl⟩ hP hD hS [] [0, 1, 2, 3, 4, 5, 6, 7, 8, 9, 10] rfl rfl hl.1 rfl rfl (Nat.le_of_ble_eq_true rfl) dX4_enough_1 ⟨Nat.le_of_ble_eq_true rfl, Nat.le_of_ble_eq_true rfl⟩ (fun rz w1 H locs hpo hP hD hS => ?_)
  obtain ⟨rfl, rfl⟩ := hpo
  obtain ⟨hP, hD⟩ := nx (ws' := [(x0, .inr (4, [.ref h0, .ref d0, .ref k0, .int (nI ik), .ref b0, .ref a0, .ref t0, .ref r0, .int (nI rn), .ref r1])), (h0, .inr (0, [.ref h1, .ref h2, .int (nI sk), .int (nI ek), .int (nI tr)])), (h1, .inl (eI g, 41, .inl (fun j => nI (W j)))), (h2, .inl (eI g, 5, .inl (fun j => nI (B j)))), (a0, .inr (2, [.ref a1, .ref a2, .ref a3, .int (nI ka), .ref a5])), (a1, .inl (eJ g, 1476, .inr (.inl T))), (a2, .inl (eI g, 4, .inl (fun j => nI (Lb j)))), (a3, .inr (1, [.ref a4, .int (nI n2)])), (a4, .inl (eI g, 7, .inl (fun j => nI (q2 j)))), (a5, .inl (eI g, 41, .inl E)), (r1, .inl (eI g, 7, .inl rf))]) hP hD [0, 1, 2, 3, 4, 5, 6, 7, 8, 9, 10] (ndB_ok _ rfl) rfl
  refine bqne (tgt := 13) hx hb dX4_enough_4 (by decide) (fun c4 => ?_) (fun c4 => ?_)
  · skip
    obtain ⟨k, hk_, rfl⟩ := natOf (x := x) (by omega)
    rw [nI_tI hk_] at c4
    refine lv_aload_n hx hb dX4_enough_13 rfl (lv_at hl 0 rfl) ?_
    refine xget F hP inX4_enough_X4 0 rfl rfl 0 (by decide) lkX4_enough_1 rfl dX4_enough_14 ?_
    refine cVL (As := []) (rest := []) F (c_X0_left l g h0 h1 h2 W B sk ek tr (hW)) kX0_left rfl gX4_enough_X0_left rfl rfl ⟨Nat.le_of_ble_eq_true rfl, Nat.le_of_ble_eq_true rfl⟩ hP hD hS [1, 2, 3] [0, 4, 5, 6, 7, 8, 9, 10] rfl rfl 0 rfl rfl hl.1 rfl rfl (Nat.le_of_ble_eq_true rfl) dX4_enough_17 ⟨Nat.le_of_ble_eq_true rfl, Nat.le_of_ble_eq_true rfl⟩ (fun rz w1 H locs hpo hP hD hS => ?_)
    obtain ⟨rfl, rfl⟩ := hpo
    obtain ⟨hP, hD⟩ := nx (ws' := [(x0, .inr (4, [.ref h0, .ref d0, .ref k0, .int (nI ik), .ref b0, .ref a0, .ref t0, .ref r0, .int (nI rn), .ref r1])), (h0, .inr (0, [.ref h1, .ref h2, .int (nI sk), .int (nI ek), .int (nI tr)])), (h1, .inl (eI g, 41, .inl (fun j => nI (W j)))), (h2, .inl (eI g, 5, .inl (fun j => nI (B j)))), (a0, .inr (2, [.ref a1, .ref a2, .ref a3, .int (nI ka), .ref a5])), (a1, .inl (eJ g, 1476, .inr (.inl T))), (a2, .inl (eI g, 4, .inl (fun j => nI (Lb j)))), (a3, .inr (1, [.ref a4, .int (nI n2)])), (a4, .inl (eI g, 7, .inl (fun j => nI (q2 j)))), (a5, .inl (eI g, 41, .inl E)), (r1, .inl (eI g, 7, .inl rf))]) hP hD [0, 8, 9, 10, 1, 2, 3, 4, 5, 6, 7] (ndB_ok _ rfl) rfl
    refine lv_lstore_n (lv' := [(2, .long (lfM W)), (0, .ref x0), (1, .int (nI k))]) hx hb dX4_enough_20 rfl hl (by decide) rfl (fun ls hl => ?_)
    refine lv_lload_n hx hb dX4_enough_21 rfl (lv_at hl 0 rfl) ?_
    refine lv_iload_n hx hb dX4_enough_22 rfl (lv_at hl 2 rfl) ?_
    refine cSI (As := [.long (lfM W), .int (nI k)]) (rest := []) F (c_X4_holds l g (lfM W) k (by omega)) kX4_holds gX4_enough_X4_holds rfl rfl ⟨Nat.le_of_ble_eq_true rfl, Nat.le_of_ble_eq_true rfl⟩ hP hD hS [] [0, 1, 2, 3, 4, 5, 6, 7, 8, 9, 10] rfl rfl hl.1 rfl rfl (Nat.le_of_ble_eq_true rfl) dX4_enough_23 ⟨Nat.le_of_ble_eq_true rfl, Nat.le_of_ble_eq_true rfl⟩ (fun rz w1 H locs hpo hP hD hS => ?_)
    obtain ⟨rfl, rfl⟩ := hpo
    obtain ⟨hP, hD⟩ := nx (ws' := [(x0, .inr (4, [.ref h0, .ref d0, .ref k0, .int (nI ik), .ref b0, .ref a0, .ref t0, .ref r0, .int (nI rn), .ref r1])), (h0, .inr (0, [.ref h1, .ref h2, .int (nI sk), .int (nI ek), .int (nI tr)])), (h1, .inl (eI g, 41, .inl (fun j => nI (W j)))), (h2, .inl (eI g, 5, .inl (fun j => nI (B j)))), (a0, .inr (2, [.ref a1, .ref a2, .ref a3, .int (nI ka), .ref a5])), (a1, .inl (eJ g, 1476, .inr (.inl T))), (a2, .inl (eI g, 4, .inl (fun j => nI (Lb j)))), (a3, .inr (1, [.ref a4, .int (nI n2)])), (a4, .inl (eI g, 7, .inl (fun j => nI (q2 j)))), (a5, .inl (eI g, 41, .inl E)), (r1, .inl (eI g, 7, .inl rf))]) hP hD [0, 1, 2, 3, 4, 5, 6, 7, 8, 9, 10] (ndB_ok _ rfl) rfl
    refine bqne (tgt := 36) hx hb dX4_enough_26 (by decide) (fun c26 => ?_) (fun c26 => ?_)
    · skip
      have hlp : lpB W k = true := by rw [← bitL_lfM]; exact c26
      refine lv_aload_n hx hb dX4_enough_36 rfl (lv_at hl 1 rfl) ?_
      refine xget F hP inX4_enough_X4 0 rfl rfl 5 (by decide) lkX4_enough_2 rfl dX4_enough_37 ?_
      refine lv_aload_n hx hb dX4_enough_40 rfl (lv_at hl 1 rfl) ?_
      refine xget F hP inX4_enough_X4 0 rfl rfl 0 (by decide) lkX4_enough_1 rfl dX4_enough_41 ?_
      refine lv_aload_n hx hb dX4_enough_44 rfl (lv_at hl 1 rfl) ?_
      refine xget F hP inX4_enough_X4 0 rfl rfl 0 (by decide) lkX4_enough_1 rfl dX4_enough_45 ?_
      refine xget F hP inX4_enough_X0 1 rfl rfl 2 (by decide) lkX4_enough_3 rfl dX4_enough_48 ?_
      refine cVV (As := [.ref h0, .int (nI sk)]) (rest := []) F (c_X2_take l g a0 a1 a2 a3 a4 a5 T ka Lb q2 n2 h0 h1 h2 W B sk ek tr sk (hC) (hB) (hek) (hsk)) kX2_take rfl gX4_enough_X2_take rfl rfl ⟨Nat.le_of_ble_eq_true rfl, Nat.le_of_ble_eq_true rfl⟩ hP hD hS [4, 5, 6, 7, 8, 1, 2, 3] [0, 9, 10] rfl rfl 0 rfl rfl hl.1 rfl rfl (Nat.le_of_ble_eq_true rfl) dX4_enough_51 ⟨Nat.le_of_ble_eq_true rfl, Nat.le_of_ble_eq_true rfl⟩ (fun w1 H locs hpo hP hD hS => ?_)
      obtain ⟨T9_4, Lb9_4, q9_4, n9_4, rfl, hpo4⟩ := hpo
      obtain ⟨hP, hD⟩ := nx (ws' := [(x0, .inr (4, [.ref h0, .ref d0, .ref k0, .int (nI ik), .ref b0, .ref a0, .ref t0, .ref r0, .int (nI rn), .ref r1])), (h0, .inr (0, [.ref h1, .ref h2, .int (nI sk), .int (nI ek), .int (nI tr)])), (h1, .inl (eI g, 41, .inl (fun j => nI (W j)))), (h2, .inl (eI g, 5, .inl (fun j => nI (B j)))), (a0, .inr (2, [.ref a1, .ref a2, .ref a3, .int (nI (sk * 369)), .ref a5])), (a1, .inl (eJ g, 1476, .inr (.inl T9_4))), (a2, .inl (eI g, 4, .inl (fun j => nI (Lb9_4 j)))), (a3, .inr (1, [.ref a4, .int (nI n9_4)])), (a4, .inl (eI g, 7, .inl (fun j => nI (q9_4 j)))), (a5, .inl (eI g, 41, .inl E)), (r1, .inl (eI g, 7, .inl rf))]) hP hD [0, 8, 9, 10, 3, 4, 5, 6, 7, 1, 2] (ndB_ok _ rfl) rfl
      obtain ⟨hC9, hR9⟩ := hpo4
      refine lv_aload_n hx hb dX4_enough_54 rfl (lv_at hl 1 rfl) ?_
      refine xget F hP inX4_enough_X4 0 rfl rfl 5 (by decide) lkX4_enough_2 rfl dX4_enough_55 ?_
      refine lv_aload_n hx hb dX4_enough_58 rfl (lv_at hl 1 rfl) ?_
      refine xget F hP inX4_enough_X4 0 rfl rfl 0 (by decide) lkX4_enough_1 rfl dX4_enough_59 ?_
      refine lv_lload_n hx hb dX4_enough_62 rfl (lv_at hl 0 rfl) ?_
      refine lv_iconst (v := (nI 0)) hx hb dX4_enough_63 (by decide) ?_
      refine cVV (As := [.ref h0, .long (lfM W), .int (nI 0)]) (rest := []) F (c_X2_plan12 l g a0 a1 a2 a3 a5 T9_4 (sk * 369) h0 h1 h2 W B sk ek tr (tlT B sk ek) E (lfM W) (hR9) (by omega) (inS_lf W) (hW) (fun v r => tl9 (by omega) (by omega))) kX2_plan rfl gX4_enough_X2_plan rfl rfl ⟨Nat.le_of_ble_eq_true rfl, Nat.le_of_ble_eq_true rfl⟩ hP hD hS [4, 5, 9, 1, 2, 3] [0, 6, 7, 8, 10] rfl rfl 0 rfl rfl hl.1 rfl rfl (Nat.le_of_ble_eq_true rfl) dX4_enough_64 ⟨Nat.le_of_ble_eq_true rfl, Nat.le_of_ble_eq_true rfl⟩ (fun w1 H locs hpo hP hD hS => ?_)
      subst hpo
      obtain ⟨hP, hD⟩ := nx (ws' := [(x0, .inr (4, [.ref h0, .ref d0, .ref k0, .int (nI ik), .ref b0, .ref a0, .ref t0, .ref r0, .int (nI rn), .ref r1])), (h0, .inr (0, [.ref h1, .ref h2, .int (nI sk), .int (nI ek), .int (nI tr)])), (h1, .inl (eI g, 41, .inl (fun j => nI (W j)))), (h2, .inl (eI g, 5, .inl (fun j => nI (B j)))), (a0, .inr (2, [.ref a1, .ref a2, .ref a3, .int (nI (sk * 369)), .ref a5])), (a1, .inl (eJ g, 1476, .inr (.inl T9_4))), (a2, .inl (eI g, 4, .inl (fun j => nI (Lb9_4 j)))), (a3, .inr (1, [.ref a4, .int (nI n9_4)])), (a4, .inl (eI g, 7, .inl (fun j => nI (q9_4 j)))), (a5, .inl (eI g, 41, .inl (noteF E (bitL (lfM W)) (enS (tlT B sk ek) 12 (bitL (lfM W)) 0) 40))), (r1, .inl (eI g, 7, .inl rf))]) hP hD [0, 8, 9, 10, 5, 6, 1, 2, 3, 7, 4] (ndB_ok _ rfl) rfl
      rw [bitL_lfM] at hP hD
      have hP : va_P (eD g) vwCl [(x0, .inr (4, [.ref h0, .ref d0, .ref k0, .int (nI ik), .ref b0, .ref a0, .ref t0, .ref r0, .int (nI rn), .ref r1])), (h0, .inr (0, [.ref h1, .ref h2, .int (nI sk), .int (nI ek), .int (nI tr)])), (h1, .inl (eI g, 41, .inl (fun j => nI (W j)))), (h2, .inl (eI g, 5, .inl (fun j => nI (B j)))), (a0, .inr (2, [.ref a1, .ref a2, .ref a3, .int (nI (sk * 369)), .ref a5])), (a1, .inl (eJ g, 1476, .inr (.inl T9_4))), (a2, .inl (eI g, 4, .inl (fun j => nI (Lb9_4 j)))), (a3, .inr (1, [.ref a4, .int (nI n9_4)])), (a4, .inl (eI g, 7, .inl (fun j => nI (q9_4 j)))), (a5, .inl (eI g, 41, .inl (noteF E (lpB W) (enS (tlT B sk ek) 12 (lpB W) 0) 40))), (r1, .inl (eI g, 7, .inl rf))] H := hP
      have hD : va_D A [(x0, .inr (4, [.ref h0, .ref d0, .ref k0, .int (nI ik), .ref b0, .ref a0, .ref t0, .ref r0, .int (nI rn), .ref r1])), (h0, .inr (0, [.ref h1, .ref h2, .int (nI sk), .int (nI ek), .int (nI tr)])), (h1, .inl (eI g, 41, .inl (fun j => nI (W j)))), (h2, .inl (eI g, 5, .inl (fun j => nI (B j)))), (a0, .inr (2, [.ref a1, .ref a2, .ref a3, .int (nI (sk * 369)), .ref a5])), (a1, .inl (eJ g, 1476, .inr (.inl T9_4))), (a2, .inl (eI g, 4, .inl (fun j => nI (Lb9_4 j)))), (a3, .inr (1, [.ref a4, .int (nI n9_4)])), (a4, .inl (eI g, 7, .inl (fun j => nI (q9_4 j)))), (a5, .inl (eI g, 41, .inl (noteF E (lpB W) (enS (tlT B sk ek) 12 (lpB W) 0) 40))), (r1, .inl (eI g, 7, .inl rf))] := hD
      refine lv_aload_n hx hb dX4_enough_67 rfl (lv_at hl 1 rfl) ?_
      refine xget F hP inX4_enough_X4 0 rfl rfl 5 (by decide) lkX4_enough_2 rfl dX4_enough_68 ?_
      refine xget F hP inX4_enough_X2 4 rfl rfl 4 (by decide) lkX4_enough_4 rfl dX4_enough_71 ?_
      refine lv_iload_n hx hb dX4_enough_74 rfl (lv_at hl 2 rfl) ?_
      refine xald F hP 9 (v := ((noteF E (lpB W) (enS (tlT B sk ek) 12 (lpB W) 0) 40) k)) rfl (by omega) (by omega) rfl dX4_enough_75 ?_
      refine sti (show ((noteF E (lpB W) (enS (tlT B sk ek) 12 (lpB W) 0) 40) k) = ((enS (tlT B sk ek) 12 (lpB W) 0) k) from note_at (by omega) (by omega) hlp) ?_
      exact rtI F hP hD hS dX4_enough_76 (by rw [show (if ¬ (1 ≤ (nI k).toInt ∧ (nI k).toInt ≤ 40) then 1 else if (lpB W) (nI k).toNatClampNeg = true then 0 else 3) = 0 from (by (try simp only [nI_tI hk_, nI_clamp hk_]); rw [if_neg (by omega), if_pos hlp])]; exact ⟨_, _, _, _, _, _, by ((try simp only [nI_tI hk_, nI_clamp hk_, rsp_0, rspL_0, bump_0]) <;> rfl), by ((try simp only [nI_tI hk_, nI_clamp hk_, rsp_0, rspL_0, bump_0]) <;> rfl), hC9⟩)
    · skip
      have hlp : ¬ lpB W k = true := by rw [← bitL_lfM]; exact c26
      refine lv_aload_n hx hb dX4_enough_29 rfl (lv_at hl 1 rfl) ?_
      refine lv_bipush (v := (-3)) hx hb dX4_enough_30 (by decide) ?_
      refine cVI (As := [.int (-3)]) (rest := []) F (c_X4_refuse l g x0 h0 d0 k0 b0 a0 t0 r0 r1 ik rn rf (-3) 3 (by decide) (by omega) (by omega)) kX4_refuse rfl gX4_enough_X4_refuse rfl rfl ⟨Nat.le_of_ble_eq_true rfl, Nat.le_of_ble_eq_true rfl⟩ hP hD hS [0, 10] [1, 2, 3, 4, 5, 6, 7, 8, 9] rfl rfl 0 rfl rfl hl.1 rfl rfl (Nat.le_of_ble_eq_true rfl) dX4_enough_32 ⟨Nat.le_of_ble_eq_true rfl, Nat.le_of_ble_eq_true rfl⟩ (fun rz w1 H locs hpo hP hD hS => ?_)
      obtain ⟨rfl, rfl⟩ := hpo
      obtain ⟨hP, hD⟩ := nx (ws' := [(x0, .inr (4, [.ref h0, .ref d0, .ref k0, .int (nI ik), .ref b0, .ref a0, .ref t0, .ref r0, .int (nI rn), .ref r1])), (h0, .inr (0, [.ref h1, .ref h2, .int (nI sk), .int (nI ek), .int (nI tr)])), (h1, .inl (eI g, 41, .inl (fun j => nI (W j)))), (h2, .inl (eI g, 5, .inl (fun j => nI (B j)))), (a0, .inr (2, [.ref a1, .ref a2, .ref a3, .int (nI ka), .ref a5])), (a1, .inl (eJ g, 1476, .inr (.inl T))), (a2, .inl (eI g, 4, .inl (fun j => nI (Lb j)))), (a3, .inr (1, [.ref a4, .int (nI n2)])), (a4, .inl (eI g, 7, .inl (fun j => nI (q2 j)))), (a5, .inl (eI g, 41, .inl E)), (r1, .inl (eI g, 7, .inl (bump rf 3)))]) hP hD [9, 0, 1, 2, 3, 4, 5, 6, 7, 8, 10] (ndB_ok _ rfl) rfl
      exact rtI F hP hD hS dX4_enough_35 (by rw [show (if ¬ (1 ≤ (nI k).toInt ∧ (nI k).toInt ≤ 40) then 1 else if (lpB W) (nI k).toNatClampNeg = true then 0 else 3) = 3 from (by (try simp only [nI_tI hk_, nI_clamp hk_]); rw [if_neg (by omega), if_neg hlp])]; exact ⟨T, ka, Lb, q2, n2, E, by rfl, by rfl, hC⟩)
  · skip
    refine lv_aload_n hx hb dX4_enough_7 rfl (lv_at hl 0 rfl) ?_
    refine lv_iconst (v := (-1)) hx hb dX4_enough_8 (by decide) ?_
    refine cVI (As := [.int (-1)]) (rest := []) F (c_X4_refuse l g x0 h0 d0 k0 b0 a0 t0 r0 r1 ik rn rf (-1) 1 (by decide) (by omega) (by omega)) kX4_refuse rfl gX4_enough_X4_refuse rfl rfl ⟨Nat.le_of_ble_eq_true rfl, Nat.le_of_ble_eq_true rfl⟩ hP hD hS [0, 10] [1, 2, 3, 4, 5, 6, 7, 8, 9] rfl rfl 0 rfl rfl hl.1 rfl rfl (Nat.le_of_ble_eq_true rfl) dX4_enough_9 ⟨Nat.le_of_ble_eq_true rfl, Nat.le_of_ble_eq_true rfl⟩ (fun rz w1 H locs hpo hP hD hS => ?_)
    obtain ⟨rfl, rfl⟩ := hpo
    obtain ⟨hP, hD⟩ := nx (ws' := [(x0, .inr (4, [.ref h0, .ref d0, .ref k0, .int (nI ik), .ref b0, .ref a0, .ref t0, .ref r0, .int (nI rn), .ref r1])), (h0, .inr (0, [.ref h1, .ref h2, .int (nI sk), .int (nI ek), .int (nI tr)])), (h1, .inl (eI g, 41, .inl (fun j => nI (W j)))), (h2, .inl (eI g, 5, .inl (fun j => nI (B j)))), (a0, .inr (2, [.ref a1, .ref a2, .ref a3, .int (nI ka), .ref a5])), (a1, .inl (eJ g, 1476, .inr (.inl T))), (a2, .inl (eI g, 4, .inl (fun j => nI (Lb j)))), (a3, .inr (1, [.ref a4, .int (nI n2)])), (a4, .inl (eI g, 7, .inl (fun j => nI (q2 j)))), (a5, .inl (eI g, 41, .inl E)), (r1, .inl (eI g, 7, .inl (bump rf 1)))]) hP hD [9, 0, 1, 2, 3, 4, 5, 6, 7, 8, 10] (ndB_ok _ rfl) rfl
    exact rtI F hP hD hS dX4_enough_12 (by rw [show (if ¬ (1 ≤ x.toInt ∧ x.toInt ≤ 40) then 1 else if (lpB W) x.toNatClampNeg = true then 0 else 3) = 1 from (by (try simp only [true_and]); rw [if_pos (by omega)])]; exact ⟨T, ka, Lb, q2, n2, E, by rfl, by rfl, hC⟩)

theorem inX5_enough_X5 : ∀ w ∈ u_ws RX5 TX5 20, w ∈ wsX5_enough := fun _ h => (List.mem_cons_of_mem _ (List.mem_append_right _ h))
theorem lkX5_enough_1 : Cond.fieldLink RX5 19 "StripInFiveStepsModel" "now" "[I" ∈ wsX5_enough := List.mem_of_getElem? (i := 1) rfl
theorem kX5_enough : Cal yX5_enough wsX5_enough cX5_enough 2 (some .int) 1 := ⟨⟨_, rfl⟩, by decide +kernel⟩
set_option maxHeartbeats 1000000 in
set_option maxRecDepth 100000 in
theorem c_X5_enough (l : Launch) (g : EE) (m0 : Nat) (m1 : Nat) (m2 : Nat) (m3 : Nat) (m4 : Nat) (m5 : Nat) (m6 : Nat) (m7 : Nat) (m8 : Nat) (m9 : Nat) (m10 : Nat) (m11 : Nat) (m12 : Nat) (m13 : Nat) (m14 : Nat) (kp : Nat) (rn : Nat) (tn : Nat) (ia : Nat) (wl : Nat) (si : Nat) (S : Nat → Nat) (O : Nat → Int32) (Y : Nat → Nat) (Z : Nat → Nat) (M : Nat → Nat) (rf : Nat → Int32) (x : Int32) (hO : okS S) : CI l yX5_enough wsX5_enough ({ frames := 9, cells := 0, slots := 0, locals := 209 }) g [.ref m0, .int x] [(m0, .inr (5, [.ref m1, .ref m2, .ref m3, .int (nI kp), .ref m4, .ref m5, .ref m6, .ref m7, .ref m8, .int (nI rn), .ref m9, .int (nI tn), .int (nI ia), .int (nI wl), .ref m10, .ref m11, .ref m12, .int (nI si), .ref m13, .ref m14])), (m2, .inl (eI g, 49, .inl (fun j => nI (S j)))), (m4, .inl (eI g, 41, .inl O)), (m5, .inl (eI g, 9, .inl (fun j => nI (Y j)))), (m6, .inl (eI g, 9, .inl (fun j => nI (Z j)))), (m7, .inl (eI g, 49, .inl (fun j => nI (M j)))), (m1, .inl (eI g, 7, .inl rf))] (fun (rz : Int32) (wz : va_W) => ∃ O9 : Nat → Int32, ∃ Y9 : Nat → Nat, ∃ Z9 : Nat → Nat, ∃ M9 : Nat → Nat, rz = (rsp (if ¬ (1 ≤ x.toInt ∧ x.toInt ≤ 40) then 1 else if (lpB S) x.toNatClampNeg = true then 0 else 3) (enS (tlS S) 12 (lpB S) 0 x.toNatClampNeg)) ∧ wz = [(m0, .inr (5, [.ref m1, .ref m2, .ref m3, .int (nI kp), .ref m4, .ref m5, .ref m6, .ref m7, .ref m8, .int (nI rn), .ref m9, .int (nI tn), .int (nI ia), .int (nI wl), .ref m10, .ref m11, .ref m12, .int (nI si), .ref m13, .ref m14])), (m2, .inl (eI g, 49, .inl (fun j => nI (S j)))), (m4, .inl (eI g, 41, .inl O9)), (m5, .inl (eI g, 9, .inl (fun j => nI (Y9 j)))), (m6, .inl (eI g, 9, .inl (fun j => nI (Z9 j)))), (m7, .inl (eI g, 49, .inl (fun j => nI (M9 j)))), (m1, .inl (eI g, 7, .inl (bump rf (if ¬ (1 ≤ x.toInt ∧ x.toInt ≤ 40) then 1 else if (lpB S) x.toNatClampNeg = true then 0 else 3))))]) 0 0 := by
  refine ctI (cc := cX5_enough) (maxL := 2) (ret := (some .int)) (by decide) rfl (Nat.le_of_ble_eq_true rfl) ?_
  intro p_ e_ s_ m_ bl_ mt_ cd_ A ls F hnm hP hD hS hl
  obtain ⟨hx, hb, hml, hown, hts, hK, hX, hA, hrt_, hlocks⟩ := id F
  have hl : lv_has ls 2 [(0, .ref m0), (1, .int x)] := hl
  obtain ⟨hw40, ⟨h41a, h41b⟩, ⟨h42a, h42b⟩, h43, h44, h45, h46, h47, h48⟩ := id hO
  refine lv_iload_n hx hb dX5_enough_0 rfl (lv_at hl 1 rfl) ?_
  refine cSI (As := [.int x]) (rest := []) F (c_X5_isNoSecond l g x ) kX5_isNoSecond gX5_enough_X5_isNoSecond rfl rfl ⟨Nat.le_of_ble_eq_true rfl, Nat.le_of_ble_eq_true rfl⟩ hP hD hS [] [0, 1, 2, 3, 4, 5, 6] rfl rfl hl.1 rfl rfl (Nat.le_of_ble_eq_true rfl) dX5_enough_1 ⟨Nat.le_of_ble_eq_true rfl, Nat.le_of_ble_eq_true rfl⟩ (fun rz w1 H locs hpo hP hD hS => ?_)
  obtain ⟨rfl, rfl⟩ := hpo
  obtain ⟨hP, hD⟩ := nx (ws' := [(m0, .inr (5, [.ref m1, .ref m2, .ref m3, .int (nI kp), .ref m4, .ref m5, .ref m6, .ref m7, .ref m8, .int (nI rn), .ref m9, .int (nI tn), .int (nI ia), .int (nI wl), .ref m10, .ref m11, .ref m12, .int (nI si), .ref m13, .ref m14])), (m2, .inl (eI g, 49, .inl (fun j => nI (S j)))), (m4, .inl (eI g, 41, .inl O)), (m5, .inl (eI g, 9, .inl (fun j => nI (Y j)))), (m6, .inl (eI g, 9, .inl (fun j => nI (Z j)))), (m7, .inl (eI g, 49, .inl (fun j => nI (M j)))), (m1, .inl (eI g, 7, .inl rf))]) hP hD [0, 1, 2, 3, 4, 5, 6] (ndB_ok _ rfl) rfl
  refine bqeq (tgt := 13) hx hb dX5_enough_4 (by decide) (fun c4 => ?_) (fun c4 => ?_)
  · skip
    obtain ⟨k, hk_, rfl⟩ := natOf (x := x) (by omega)
    rw [nI_tI hk_] at c4
    refine lv_aload_n hx hb dX5_enough_13 rfl (lv_at hl 0 rfl) ?_
    refine xget F hP inX5_enough_X5 0 rfl rfl 1 (by decide) lkX5_enough_1 rfl dX5_enough_14 ?_
    refine lv_iload_n hx hb dX5_enough_17 rfl (lv_at hl 1 rfl) ?_
    refine xald F hP 1 (v := (nI (S k))) rfl (by omega) (by omega) rfl dX5_enough_18 ?_
    have hbd2 := hO.1 (k) (by omega)
    refine zne (tgt := 31) hx hb dX5_enough_19 (by decide) (by omega) (fun c19 => ?_) (fun c19 => ?_)
    · skip
      have hlp : lpB S k = true := lp_on (by omega) (by omega) c19
      refine lv_aload_n hx hb dX5_enough_31 rfl (lv_at hl 0 rfl) ?_
      refine lv_iload_n hx hb dX5_enough_32 rfl (lv_at hl 1 rfl) ?_
      refine cVI (As := [.int (nI k)]) (rest := []) F (c_X5_enoughFor l g m0 m1 m2 m3 m4 m5 m6 m7 m8 m9 m10 m11 m12 m13 m14 kp rn tn ia wl si S O Y Z M k (hO) (by omega) (by omega) (hlp)) kX5_enoughFor rfl gX5_enough_X5_enoughFor rfl rfl ⟨Nat.le_of_ble_eq_true rfl, Nat.le_of_ble_eq_true rfl⟩ hP hD hS [0, 1, 2, 3, 4, 5] [6] rfl rfl 0 rfl rfl hl.1 rfl rfl (Nat.le_of_ble_eq_true rfl) dX5_enough_33 ⟨Nat.le_of_ble_eq_true rfl, Nat.le_of_ble_eq_true rfl⟩ (fun rz w1 H locs hpo hP hD hS => ?_)
      obtain ⟨O9_3, Y9_3, Z9_3, M9_3, rfl, rfl⟩ := hpo
      obtain ⟨hP, hD⟩ := nx (ws' := [(m0, .inr (5, [.ref m1, .ref m2, .ref m3, .int (nI kp), .ref m4, .ref m5, .ref m6, .ref m7, .ref m8, .int (nI rn), .ref m9, .int (nI tn), .int (nI ia), .int (nI wl), .ref m10, .ref m11, .ref m12, .int (nI si), .ref m13, .ref m14])), (m2, .inl (eI g, 49, .inl (fun j => nI (S j)))), (m4, .inl (eI g, 41, .inl O9_3)), (m5, .inl (eI g, 9, .inl (fun j => nI (Y9_3 j)))), (m6, .inl (eI g, 9, .inl (fun j => nI (Z9_3 j)))), (m7, .inl (eI g, 49, .inl (fun j => nI (M9_3 j)))), (m1, .inl (eI g, 7, .inl rf))]) hP hD [1, 2, 3, 4, 5, 6, 0] (ndB_ok _ rfl) rfl
      exact rtI F hP hD hS dX5_enough_36 (by rw [show (if ¬ (1 ≤ (nI k).toInt ∧ (nI k).toInt ≤ 40) then 1 else if (lpB S) (nI k).toNatClampNeg = true then 0 else 3) = 0 from (by (try simp only [nI_tI hk_, nI_clamp hk_]); rw [if_neg (by omega), if_pos hlp])]; exact ⟨_, _, _, _, by ((try simp only [nI_tI hk_, nI_clamp hk_, rsp_0, rspL_0, bump_0]) <;> rfl), by ((try simp only [nI_tI hk_, nI_clamp hk_, rsp_0, rspL_0, bump_0]) <;> rfl)⟩)
    · skip
      have hlp : ¬ lpB S k = true := by rw [lp_off c19]; decide
      refine lv_aload_n hx hb dX5_enough_22 rfl (lv_at hl 0 rfl) ?_
      refine lv_bipush (v := (-3)) hx hb dX5_enough_23 (by decide) ?_
      refine cVI (As := [.int (-3)]) (rest := []) F (c_X5_no l g m0 m1 m2 m3 m4 m5 m6 m7 m8 m9 m10 m11 m12 m13 m14 kp rn tn ia wl si rf (-3) 3 (by decide) (by omega) (by omega)) kX5_no rfl gX5_enough_X5_no rfl rfl ⟨Nat.le_of_ble_eq_true rfl, Nat.le_of_ble_eq_true rfl⟩ hP hD hS [0, 6] [1, 2, 3, 4, 5] rfl rfl 0 rfl rfl hl.1 rfl rfl (Nat.le_of_ble_eq_true rfl) dX5_enough_25 ⟨Nat.le_of_ble_eq_true rfl, Nat.le_of_ble_eq_true rfl⟩ (fun rz w1 H locs hpo hP hD hS => ?_)
      obtain ⟨rfl, rfl⟩ := hpo
      obtain ⟨hP, hD⟩ := nx (ws' := [(m0, .inr (5, [.ref m1, .ref m2, .ref m3, .int (nI kp), .ref m4, .ref m5, .ref m6, .ref m7, .ref m8, .int (nI rn), .ref m9, .int (nI tn), .int (nI ia), .int (nI wl), .ref m10, .ref m11, .ref m12, .int (nI si), .ref m13, .ref m14])), (m2, .inl (eI g, 49, .inl (fun j => nI (S j)))), (m4, .inl (eI g, 41, .inl O)), (m5, .inl (eI g, 9, .inl (fun j => nI (Y j)))), (m6, .inl (eI g, 9, .inl (fun j => nI (Z j)))), (m7, .inl (eI g, 49, .inl (fun j => nI (M j)))), (m1, .inl (eI g, 7, .inl (bump rf 3)))]) hP hD [5, 0, 1, 2, 3, 4, 6] (ndB_ok _ rfl) rfl
      refine lv_goto (tgt := 36) hx hb dX5_enough_28 (by decide) ?_
      exact rtI F hP hD hS dX5_enough_36 (by rw [show (if ¬ (1 ≤ (nI k).toInt ∧ (nI k).toInt ≤ 40) then 1 else if (lpB S) (nI k).toNatClampNeg = true then 0 else 3) = 3 from (by (try simp only [nI_tI hk_, nI_clamp hk_]); rw [if_neg (by omega), if_neg hlp])]; exact ⟨_, _, _, _, by rfl, by rfl⟩)
  · skip
    refine lv_aload_n hx hb dX5_enough_7 rfl (lv_at hl 0 rfl) ?_
    refine lv_iconst (v := (-1)) hx hb dX5_enough_8 (by decide) ?_
    refine cVI (As := [.int (-1)]) (rest := []) F (c_X5_no l g m0 m1 m2 m3 m4 m5 m6 m7 m8 m9 m10 m11 m12 m13 m14 kp rn tn ia wl si rf (-1) 1 (by decide) (by omega) (by omega)) kX5_no rfl gX5_enough_X5_no rfl rfl ⟨Nat.le_of_ble_eq_true rfl, Nat.le_of_ble_eq_true rfl⟩ hP hD hS [0, 6] [1, 2, 3, 4, 5] rfl rfl 0 rfl rfl hl.1 rfl rfl (Nat.le_of_ble_eq_true rfl) dX5_enough_9 ⟨Nat.le_of_ble_eq_true rfl, Nat.le_of_ble_eq_true rfl⟩ (fun rz w1 H locs hpo hP hD hS => ?_)
    obtain ⟨rfl, rfl⟩ := hpo
    obtain ⟨hP, hD⟩ := nx (ws' := [(m0, .inr (5, [.ref m1, .ref m2, .ref m3, .int (nI kp), .ref m4, .ref m5, .ref m6, .ref m7, .ref m8, .int (nI rn), .ref m9, .int (nI tn), .int (nI ia), .int (nI wl), .ref m10, .ref m11, .ref m12, .int (nI si), .ref m13, .ref m14])), (m2, .inl (eI g, 49, .inl (fun j => nI (S j)))), (m4, .inl (eI g, 41, .inl O)), (m5, .inl (eI g, 9, .inl (fun j => nI (Y j)))), (m6, .inl (eI g, 9, .inl (fun j => nI (Z j)))), (m7, .inl (eI g, 49, .inl (fun j => nI (M j)))), (m1, .inl (eI g, 7, .inl (bump rf 1)))]) hP hD [5, 0, 1, 2, 3, 4, 6] (ndB_ok _ rfl) rfl
    exact rtI F hP hD hS dX5_enough_12 (by rw [show (if ¬ (1 ≤ x.toInt ∧ x.toInt ≤ 40) then 1 else if (lpB S) x.toNatClampNeg = true then 0 else 3) = 1 from (by (try simp only [true_and]); rw [if_pos (by omega)])]; exact ⟨_, _, _, _, by rfl, by rfl⟩)

theorem inX4_most_X4 : ∀ w ∈ u_ws RX4 TX4 10, w ∈ wsX4_most := fun _ h => (List.mem_cons_of_mem _ (List.mem_append_left _ (List.mem_append_left _ (List.mem_append_left _ (List.mem_append_right _ h)))))
theorem lkX4_most_1 : Cond.fieldLink RX4 10 "StripInFiveSteps" "now" "LStripInFiveSteps$Shed;" ∈ wsX4_most := List.mem_of_getElem? (i := 1) rfl
theorem lkX4_most_2 : Cond.fieldLink RX4 36 "StripInFiveSteps" "strips" "LStripInFiveSteps$Strips;" ∈ wsX4_most := List.mem_of_getElem? (i := 2) rfl
theorem inX4_most_X0 : ∀ w ∈ u_ws RX0 TX0 5, w ∈ wsX4_most := fun _ h => (List.mem_cons_of_mem _ (List.mem_append_left _ (List.mem_append_left _ (List.mem_append_right _ h))))
theorem lkX4_most_3 : Cond.fieldLink RX4 99 "StripInFiveSteps$Shed" "stripKind" "I" ∈ wsX4_most := List.mem_of_getElem? (i := 3) rfl
theorem inX4_most_X2 : ∀ w ∈ u_ws RX2 TX2 5, w ∈ wsX4_most := fun _ h => (List.mem_cons_of_mem _ (List.mem_append_left _ (List.mem_append_right _ h)))
theorem lkX4_most_4 : Cond.fieldLink RX4 198 "StripInFiveSteps$Strips" "enoughFor" "[I" ∈ wsX4_most := List.mem_of_getElem? (i := 4) rfl
theorem lkX4_most_6 : Cond.static Lib.Math.max.name ∈ wsX4_most := List.mem_of_getElem? (i := 6) rfl
theorem lkX4_most_7 : Cond.initialized "java/lang/Math" ∈ wsX4_most := List.mem_of_getElem? (i := 7) rfl
theorem lkX4_most_8 : Cond.code Lib.Math.max.name Lib.Math.max.code 2 (some .int) ∈ wsX4_most := List.mem_of_getElem? (i := 8) rfl
theorem lkX4_most_5 : Cond.methodLink RX4 201 Lib.Math.max.name ∈ wsX4_most := List.mem_of_getElem? (i := 5) rfl
theorem kX4_most : Cal yX4_most wsX4_most cX4_most 5 (some .int) 0 := ⟨⟨_, rfl⟩, by decide +kernel⟩
set_option maxHeartbeats 1000000 in
set_option maxRecDepth 100000 in
theorem c_X4_most (l : Launch) (g : EE) (x0 : Nat) (h0 : Nat) (d0 : Nat) (k0 : Nat) (b0 : Nat) (a0 : Nat) (t0 : Nat) (r0 : Nat) (r1 : Nat) (ik : Nat) (rn : Nat) (h1 : Nat) (h2 : Nat) (W : Nat → Nat) (B : Nat → Nat) (sk : Nat) (ek : Nat) (tr : Nat) (a1 : Nat) (a2 : Nat) (a3 : Nat) (a4 : Nat) (a5 : Nat) (T : Nat → Int64) (ka : Nat) (Lb : Nat → Nat) (q2 : Nat → Nat) (n2 : Nat) (E : Nat → Int32) (rf : Nat → Int32) (hW : ∀ j, W j ≤ 9) (hB : okB B) (hsk : sk ≤ 3) (hek : ek ≤ 4) (hC : Cch T Lb) : CI l yX4_most wsX4_most ({ frames := 18, cells := 0, slots := 0, locals := 507 }) g [.ref x0] [(x0, .inr (4, [.ref h0, .ref d0, .ref k0, .int (nI ik), .ref b0, .ref a0, .ref t0, .ref r0, .int (nI rn), .ref r1])), (h0, .inr (0, [.ref h1, .ref h2, .int (nI sk), .int (nI ek), .int (nI tr)])), (h1, .inl (eI g, 41, .inl (fun j => nI (W j)))), (h2, .inl (eI g, 5, .inl (fun j => nI (B j)))), (a0, .inr (2, [.ref a1, .ref a2, .ref a3, .int (nI ka), .ref a5])), (a1, .inl (eJ g, 1476, .inr (.inl T))), (a2, .inl (eI g, 4, .inl (fun j => nI (Lb j)))), (a3, .inr (1, [.ref a4, .int (nI n2)])), (a4, .inl (eI g, 7, .inl (fun j => nI (q2 j)))), (a5, .inl (eI g, 41, .inl E)), (r1, .inl (eI g, 7, .inl rf))] (fun (rz : Int32) (wz : va_W) => ∃ T9 : Nat → Int64, ∃ ka9 : Nat, ∃ Lb9 : Nat → Nat, ∃ q9 : Nat → Nat, ∃ n9 : Nat, ∃ E9 : Nat → Int32, rz = (rsp (if cnS (lpB W) = 0 then 3 else 0) (moF (lpB W) (enS (tlT B sk ek) 12 (lpB W) 0) 40)) ∧ wz = [(x0, .inr (4, [.ref h0, .ref d0, .ref k0, .int (nI ik), .ref b0, .ref a0, .ref t0, .ref r0, .int (nI rn), .ref r1])), (h0, .inr (0, [.ref h1, .ref h2, .int (nI sk), .int (nI ek), .int (nI tr)])), (h1, .inl (eI g, 41, .inl (fun j => nI (W j)))), (h2, .inl (eI g, 5, .inl (fun j => nI (B j)))), (a0, .inr (2, [.ref a1, .ref a2, .ref a3, .int (nI ka9), .ref a5])), (a1, .inl (eJ g, 1476, .inr (.inl T9))), (a2, .inl (eI g, 4, .inl (fun j => nI (Lb9 j)))), (a3, .inr (1, [.ref a4, .int (nI n9)])), (a4, .inl (eI g, 7, .inl (fun j => nI (q9 j)))), (a5, .inl (eI g, 41, .inl E9)), (r1, .inl (eI g, 7, .inl (bump rf (if cnS (lpB W) = 0 then 3 else 0))))] ∧ Cch T9 Lb9) 0 0 := by
  refine ctI (cc := cX4_most) (maxL := 5) (ret := (some .int)) (by decide) rfl (Nat.le_of_ble_eq_true rfl) ?_
  intro p_ e_ s_ m_ bl_ mt_ cd_ A ls F hnm hP hD hS hl
  obtain ⟨hx, hb, hml, hown, hts, hK, hX, hA, hrt_, hlocks⟩ := id F
  have hl : lv_has ls 5 [(0, .ref x0)] := hl
  obtain ⟨hb0, hb1, hb2, hb3, hb4, hb5⟩ := okB_b hB
  refine lv_aload_n hx hb dX4_most_0 rfl (lv_at hl 0 rfl) ?_
  refine xget F hP inX4_most_X4 0 rfl rfl 0 (by decide) lkX4_most_1 rfl dX4_most_1 ?_
  refine cVL (As := []) (rest := []) F (c_X0_left l g h0 h1 h2 W B sk ek tr (hW)) kX0_left rfl gX4_most_X0_left rfl rfl ⟨Nat.le_of_ble_eq_true rfl, Nat.le_of_ble_eq_true rfl⟩ hP hD hS [1, 2, 3] [0, 4, 5, 6, 7, 8, 9, 10] rfl rfl 0 rfl rfl hl.1 rfl rfl (Nat.le_of_ble_eq_true rfl) dX4_most_4 ⟨Nat.le_of_ble_eq_true rfl, Nat.le_of_ble_eq_true rfl⟩ (fun rz w1 H locs hpo hP hD hS => ?_)
  obtain ⟨rfl, rfl⟩ := hpo
  obtain ⟨hP, hD⟩ := nx (ws' := [(x0, .inr (4, [.ref h0, .ref d0, .ref k0, .int (nI ik), .ref b0, .ref a0, .ref t0, .ref r0, .int (nI rn), .ref r1])), (h0, .inr (0, [.ref h1, .ref h2, .int (nI sk), .int (nI ek), .int (nI tr)])), (h1, .inl (eI g, 41, .inl (fun j => nI (W j)))), (h2, .inl (eI g, 5, .inl (fun j => nI (B j)))), (a0, .inr (2, [.ref a1, .ref a2, .ref a3, .int (nI ka), .ref a5])), (a1, .inl (eJ g, 1476, .inr (.inl T))), (a2, .inl (eI g, 4, .inl (fun j => nI (Lb j)))), (a3, .inr (1, [.ref a4, .int (nI n2)])), (a4, .inl (eI g, 7, .inl (fun j => nI (q2 j)))), (a5, .inl (eI g, 41, .inl E)), (r1, .inl (eI g, 7, .inl rf))]) hP hD [0, 8, 9, 10, 1, 2, 3, 4, 5, 6, 7] (ndB_ok _ rfl) rfl
  refine lv_lstore_n (lv' := [(1, .long (lfM W)), (0, .ref x0)]) hx hb dX4_most_7 rfl hl (by decide) rfl (fun ls hl => ?_)
  refine lv_lload_n hx hb dX4_most_8 rfl (lv_at hl 0 rfl) ?_
  refine lv_lconst (v := lN 0) hx hb dX4_most_9 rfl ?_
  refine jne (tgt := 21) hx hb dX4_most_10 dX4_most_11 (by decide) (fun c11 => ?_) (fun c11 => ?_)
  · skip
    have hc0 : ¬ cnS (lpB W) = 0 := fun z => c11 ((lf0 W).mpr z)
    refine lv_aload_n hx hb dX4_most_21 rfl (lv_at hl 1 rfl) ?_
    refine xget F hP inX4_most_X4 0 rfl rfl 5 (by decide) lkX4_most_2 rfl dX4_most_22 ?_
    refine lv_aload_n hx hb dX4_most_25 rfl (lv_at hl 1 rfl) ?_
    refine xget F hP inX4_most_X4 0 rfl rfl 0 (by decide) lkX4_most_1 rfl dX4_most_26 ?_
    refine lv_aload_n hx hb dX4_most_29 rfl (lv_at hl 1 rfl) ?_
    refine xget F hP inX4_most_X4 0 rfl rfl 0 (by decide) lkX4_most_1 rfl dX4_most_30 ?_
    refine xget F hP inX4_most_X0 1 rfl rfl 2 (by decide) lkX4_most_3 rfl dX4_most_33 ?_
    refine cVV (As := [.ref h0, .int (nI sk)]) (rest := []) F (c_X2_take l g a0 a1 a2 a3 a4 a5 T ka Lb q2 n2 h0 h1 h2 W B sk ek tr sk (hC) (hB) (hek) (hsk)) kX2_take rfl gX4_most_X2_take rfl rfl ⟨Nat.le_of_ble_eq_true rfl, Nat.le_of_ble_eq_true rfl⟩ hP hD hS [4, 5, 6, 7, 8, 1, 2, 3] [0, 9, 10] rfl rfl 0 rfl rfl hl.1 rfl rfl (Nat.le_of_ble_eq_true rfl) dX4_most_36 ⟨Nat.le_of_ble_eq_true rfl, Nat.le_of_ble_eq_true rfl⟩ (fun w1 H locs hpo hP hD hS => ?_)
    obtain ⟨T9_2, Lb9_2, q9_2, n9_2, rfl, hpo2⟩ := hpo
    obtain ⟨hP, hD⟩ := nx (ws' := [(x0, .inr (4, [.ref h0, .ref d0, .ref k0, .int (nI ik), .ref b0, .ref a0, .ref t0, .ref r0, .int (nI rn), .ref r1])), (h0, .inr (0, [.ref h1, .ref h2, .int (nI sk), .int (nI ek), .int (nI tr)])), (h1, .inl (eI g, 41, .inl (fun j => nI (W j)))), (h2, .inl (eI g, 5, .inl (fun j => nI (B j)))), (a0, .inr (2, [.ref a1, .ref a2, .ref a3, .int (nI (sk * 369)), .ref a5])), (a1, .inl (eJ g, 1476, .inr (.inl T9_2))), (a2, .inl (eI g, 4, .inl (fun j => nI (Lb9_2 j)))), (a3, .inr (1, [.ref a4, .int (nI n9_2)])), (a4, .inl (eI g, 7, .inl (fun j => nI (q9_2 j)))), (a5, .inl (eI g, 41, .inl E)), (r1, .inl (eI g, 7, .inl rf))]) hP hD [0, 8, 9, 10, 3, 4, 5, 6, 7, 1, 2] (ndB_ok _ rfl) rfl
    obtain ⟨hC9, hR9⟩ := hpo2
    refine lv_aload_n hx hb dX4_most_39 rfl (lv_at hl 1 rfl) ?_
    refine xget F hP inX4_most_X4 0 rfl rfl 5 (by decide) lkX4_most_2 rfl dX4_most_40 ?_
    refine lv_aload_n hx hb dX4_most_43 rfl (lv_at hl 1 rfl) ?_
    refine xget F hP inX4_most_X4 0 rfl rfl 0 (by decide) lkX4_most_1 rfl dX4_most_44 ?_
    refine lv_lload_n hx hb dX4_most_47 rfl (lv_at hl 0 rfl) ?_
    refine lv_iconst (v := (nI 0)) hx hb dX4_most_48 (by decide) ?_
    refine cVV (As := [.ref h0, .long (lfM W), .int (nI 0)]) (rest := []) F (c_X2_plan12 l g a0 a1 a2 a3 a5 T9_2 (sk * 369) h0 h1 h2 W B sk ek tr (tlT B sk ek) E (lfM W) (hR9) (by omega) (inS_lf W) (hW) (fun v r => tl9 (by omega) (by omega))) kX2_plan rfl gX4_most_X2_plan rfl rfl ⟨Nat.le_of_ble_eq_true rfl, Nat.le_of_ble_eq_true rfl⟩ hP hD hS [4, 5, 9, 1, 2, 3] [0, 6, 7, 8, 10] rfl rfl 0 rfl rfl hl.1 rfl rfl (Nat.le_of_ble_eq_true rfl) dX4_most_49 ⟨Nat.le_of_ble_eq_true rfl, Nat.le_of_ble_eq_true rfl⟩ (fun w1 H locs hpo hP hD hS => ?_)
    subst hpo
    obtain ⟨hP, hD⟩ := nx (ws' := [(x0, .inr (4, [.ref h0, .ref d0, .ref k0, .int (nI ik), .ref b0, .ref a0, .ref t0, .ref r0, .int (nI rn), .ref r1])), (h0, .inr (0, [.ref h1, .ref h2, .int (nI sk), .int (nI ek), .int (nI tr)])), (h1, .inl (eI g, 41, .inl (fun j => nI (W j)))), (h2, .inl (eI g, 5, .inl (fun j => nI (B j)))), (a0, .inr (2, [.ref a1, .ref a2, .ref a3, .int (nI (sk * 369)), .ref a5])), (a1, .inl (eJ g, 1476, .inr (.inl T9_2))), (a2, .inl (eI g, 4, .inl (fun j => nI (Lb9_2 j)))), (a3, .inr (1, [.ref a4, .int (nI n9_2)])), (a4, .inl (eI g, 7, .inl (fun j => nI (q9_2 j)))), (a5, .inl (eI g, 41, .inl (noteF E (bitL (lfM W)) (enS (tlT B sk ek) 12 (bitL (lfM W)) 0) 40))), (r1, .inl (eI g, 7, .inl rf))]) hP hD [0, 8, 9, 10, 5, 6, 1, 2, 3, 7, 4] (ndB_ok _ rfl) rfl
    rw [bitL_lfM] at hP hD
    have hP : va_P (eD g) vwCl [(x0, .inr (4, [.ref h0, .ref d0, .ref k0, .int (nI ik), .ref b0, .ref a0, .ref t0, .ref r0, .int (nI rn), .ref r1])), (h0, .inr (0, [.ref h1, .ref h2, .int (nI sk), .int (nI ek), .int (nI tr)])), (h1, .inl (eI g, 41, .inl (fun j => nI (W j)))), (h2, .inl (eI g, 5, .inl (fun j => nI (B j)))), (a0, .inr (2, [.ref a1, .ref a2, .ref a3, .int (nI (sk * 369)), .ref a5])), (a1, .inl (eJ g, 1476, .inr (.inl T9_2))), (a2, .inl (eI g, 4, .inl (fun j => nI (Lb9_2 j)))), (a3, .inr (1, [.ref a4, .int (nI n9_2)])), (a4, .inl (eI g, 7, .inl (fun j => nI (q9_2 j)))), (a5, .inl (eI g, 41, .inl (noteF E (lpB W) (enS (tlT B sk ek) 12 (lpB W) 0) 40))), (r1, .inl (eI g, 7, .inl rf))] H := hP
    have hD : va_D A [(x0, .inr (4, [.ref h0, .ref d0, .ref k0, .int (nI ik), .ref b0, .ref a0, .ref t0, .ref r0, .int (nI rn), .ref r1])), (h0, .inr (0, [.ref h1, .ref h2, .int (nI sk), .int (nI ek), .int (nI tr)])), (h1, .inl (eI g, 41, .inl (fun j => nI (W j)))), (h2, .inl (eI g, 5, .inl (fun j => nI (B j)))), (a0, .inr (2, [.ref a1, .ref a2, .ref a3, .int (nI (sk * 369)), .ref a5])), (a1, .inl (eJ g, 1476, .inr (.inl T9_2))), (a2, .inl (eI g, 4, .inl (fun j => nI (Lb9_2 j)))), (a3, .inr (1, [.ref a4, .int (nI n9_2)])), (a4, .inl (eI g, 7, .inl (fun j => nI (q9_2 j)))), (a5, .inl (eI g, 41, .inl (noteF E (lpB W) (enS (tlT B sk ek) 12 (lpB W) 0) 40))), (r1, .inl (eI g, 7, .inl rf))] := hD
    refine lv_iconst (v := (nI 0)) hx hb dX4_most_52 (by decide) ?_
    refine lv_istore_n (lv' := [(3, .int (nI 0)), (1, .long (lfM W)), (0, .ref x0)]) hx hb dX4_most_53 rfl hl (by decide) rfl (fun ls hl => ?_)
    refine lv_iconst (v := (nI 1)) hx hb dX4_most_54 (by decide) ?_
    refine lv_istore (lv' := [(4, .int (nI 1)), (3, .int (nI 0)), (1, .long (lfM W)), (0, .ref x0)]) hx hb dX4_most_55 hl (by decide) rfl (fun ls hl => ?_)
    refine xlo (σ := Nat × Int32) 5 (fun xz_ => (fun (i : Nat) (m : Int32) => [(0, .ref x0), (1, .long (lfM W)), (3, .int m), (4, .int (nI i))]) xz_.1 xz_.2) (fun xz_ => (fun (i : Nat) (m : Int32) => [(x0, .inr (4, [.ref h0, .ref d0, .ref k0, .int (nI ik), .ref b0, .ref a0, .ref t0, .ref r0, .int (nI rn), .ref r1])), (h0, .inr (0, [.ref h1, .ref h2, .int (nI sk), .int (nI ek), .int (nI tr)])), (h1, .inl (eI g, 41, .inl (fun j => nI (W j)))), (h2, .inl (eI g, 5, .inl (fun j => nI (B j)))), (a0, .inr (2, [.ref a1, .ref a2, .ref a3, .int (nI (sk * 369)), .ref a5])), (a1, .inl (eJ g, 1476, .inr (.inl T9_2))), (a2, .inl (eI g, 4, .inl (fun j => nI (Lb9_2 j)))), (a3, .inr (1, [.ref a4, .int (nI n9_2)])), (a4, .inl (eI g, 7, .inl (fun j => nI (q9_2 j)))), (a5, .inl (eI g, 41, .inl (noteF E (lpB W) (enS (tlT B sk ek) 12 (lpB W) 0) 40))), (r1, .inl (eI g, 7, .inl rf))]) xz_.1 xz_.2) (fun xz_ => (fun (i : Nat) (m : Int32) => m = moF (lpB W) (enS (tlT B sk ek) 12 (lpB W) 0) (i - 1) ∧ m ≠ -9 ∧ 1 ≤ i ∧ i ≤ 41) xz_.1 xz_.2) (fun xz_ => (fun (i : Nat) (m : Int32) => 41 - i) xz_.1 xz_.2) (fun xz_ hI ih57 H locs ls hP hD hS hl => ?_) (1, (nI 0)) (show (nI 0) = moF (lpB W) (enS (tlT B sk ek) 12 (lpB W) 0) (1 - 1) ∧ (nI 0) ≠ -9 ∧ 1 ≤ 1 ∧ 1 ≤ 41 from (⟨rfl, by decide, by omega, by omega⟩)) hP hD hS (lv_sub hl [3, 2, 1, 0] rfl)
    obtain ⟨i, m⟩ := xz_
    have hP : va_P (eD g) vwCl [(x0, .inr (4, [.ref h0, .ref d0, .ref k0, .int (nI ik), .ref b0, .ref a0, .ref t0, .ref r0, .int (nI rn), .ref r1])), (h0, .inr (0, [.ref h1, .ref h2, .int (nI sk), .int (nI ek), .int (nI tr)])), (h1, .inl (eI g, 41, .inl (fun j => nI (W j)))), (h2, .inl (eI g, 5, .inl (fun j => nI (B j)))), (a0, .inr (2, [.ref a1, .ref a2, .ref a3, .int (nI (sk * 369)), .ref a5])), (a1, .inl (eJ g, 1476, .inr (.inl T9_2))), (a2, .inl (eI g, 4, .inl (fun j => nI (Lb9_2 j)))), (a3, .inr (1, [.ref a4, .int (nI n9_2)])), (a4, .inl (eI g, 7, .inl (fun j => nI (q9_2 j)))), (a5, .inl (eI g, 41, .inl (noteF E (lpB W) (enS (tlT B sk ek) 12 (lpB W) 0) 40))), (r1, .inl (eI g, 7, .inl rf))] H := hP
    have hD : va_D A [(x0, .inr (4, [.ref h0, .ref d0, .ref k0, .int (nI ik), .ref b0, .ref a0, .ref t0, .ref r0, .int (nI rn), .ref r1])), (h0, .inr (0, [.ref h1, .ref h2, .int (nI sk), .int (nI ek), .int (nI tr)])), (h1, .inl (eI g, 41, .inl (fun j => nI (W j)))), (h2, .inl (eI g, 5, .inl (fun j => nI (B j)))), (a0, .inr (2, [.ref a1, .ref a2, .ref a3, .int (nI (sk * 369)), .ref a5])), (a1, .inl (eJ g, 1476, .inr (.inl T9_2))), (a2, .inl (eI g, 4, .inl (fun j => nI (Lb9_2 j)))), (a3, .inr (1, [.ref a4, .int (nI n9_2)])), (a4, .inl (eI g, 7, .inl (fun j => nI (q9_2 j)))), (a5, .inl (eI g, 41, .inl (noteF E (lpB W) (enS (tlT B sk ek) 12 (lpB W) 0) 40))), (r1, .inl (eI g, 7, .inl rf))] := hD
    have hl : lv_has ls 5 [(0, .ref x0), (1, .long (lfM W)), (3, .int m), (4, .int (nI i))] := hl
    have hI57 : m = moF (lpB W) (enS (tlT B sk ek) 12 (lpB W) 0) (i - 1) ∧ m ≠ -9 ∧ 1 ≤ i ∧ i ≤ 41 := hI
    clear hI
    obtain ⟨hm, h9, hi1, hi2⟩ := id hI57
    refine lv_iload hx hb dX4_most_57 (lv_at hl 3 rfl) ?_
    refine lv_bipush (v := (nI 40)) hx hb dX4_most_59 (by decide) ?_
    refine xgt (tgt := 115) hx hb dX4_most_61 (by decide) (by omega) (by omega) (fun c61 => ?_) (fun c61 => ?_)
    · skip
      refine lv_iload_n hx hb dX4_most_115 rfl (lv_at hl 2 rfl) ?_
      exact rtI F hP hD hS dX4_most_116 (by rw [show (if cnS (lpB W) = 0 then 3 else 0) = 0 from (by rw [if_neg hc0])]; exact ⟨_, _, _, _, _, _, by rw [rsp_0, hm, show i - 1 = 40 by omega], rfl, hC9⟩)
    · skip
      refine lv_lload_n hx hb dX4_most_64 rfl (lv_at hl 1 rfl) ?_
      refine lv_iload hx hb dX4_most_65 (lv_at hl 3 rfl) ?_
      refine cSI (As := [.long (lfM W), .int (nI i)]) (rest := []) F (c_X4_holds l g (lfM W) i (by omega)) kX4_holds gX4_most_X4_holds rfl rfl ⟨Nat.le_of_ble_eq_true rfl, Nat.le_of_ble_eq_true rfl⟩ hP hD hS [] [0, 1, 2, 3, 4, 5, 6, 7, 8, 9, 10] rfl rfl hl.1 rfl rfl (Nat.le_of_ble_eq_true rfl) dX4_most_67 ⟨Nat.le_of_ble_eq_true rfl, Nat.le_of_ble_eq_true rfl⟩ (fun rz w1 H locs hpo hP hD hS => ?_)
      obtain ⟨rfl, rfl⟩ := hpo
      obtain ⟨hP, hD⟩ := nx (ws' := [(x0, .inr (4, [.ref h0, .ref d0, .ref k0, .int (nI ik), .ref b0, .ref a0, .ref t0, .ref r0, .int (nI rn), .ref r1])), (h0, .inr (0, [.ref h1, .ref h2, .int (nI sk), .int (nI ek), .int (nI tr)])), (h1, .inl (eI g, 41, .inl (fun j => nI (W j)))), (h2, .inl (eI g, 5, .inl (fun j => nI (B j)))), (a0, .inr (2, [.ref a1, .ref a2, .ref a3, .int (nI (sk * 369)), .ref a5])), (a1, .inl (eJ g, 1476, .inr (.inl T9_2))), (a2, .inl (eI g, 4, .inl (fun j => nI (Lb9_2 j)))), (a3, .inr (1, [.ref a4, .int (nI n9_2)])), (a4, .inl (eI g, 7, .inl (fun j => nI (q9_2 j)))), (a5, .inl (eI g, 41, .inl (noteF E (lpB W) (enS (tlT B sk ek) 12 (lpB W) 0) 40))), (r1, .inl (eI g, 7, .inl rf))]) hP hD [0, 1, 2, 3, 4, 5, 6, 7, 8, 9, 10] (ndB_ok _ rfl) rfl
      refine bqne (tgt := 76) hx hb dX4_most_70 (by decide) (fun c70 => ?_) (fun c70 => ?_)
      · skip
        have hlp : lpB W i = true := by rw [← bitL_lfM]; exact c70
        refine lv_aload_n hx hb dX4_most_76 rfl (lv_at hl 0 rfl) ?_
        refine xget F hP inX4_most_X4 0 rfl rfl 5 (by decide) lkX4_most_2 rfl dX4_most_77 ?_
        refine xget F hP inX4_most_X2 4 rfl rfl 4 (by decide) lkX4_most_4 rfl dX4_most_80 ?_
        refine lv_iload hx hb dX4_most_83 (lv_at hl 3 rfl) ?_
        refine xald F hP 9 (v := ((noteF E (lpB W) (enS (tlT B sk ek) 12 (lpB W) 0) 40) i)) rfl (by omega) (by omega) rfl dX4_most_85 ?_
        refine sti (show ((noteF E (lpB W) (enS (tlT B sk ek) 12 (lpB W) 0) 40) i) = ((enS (tlT B sk ek) 12 (lpB W) 0) i) from note_at (by omega) (by omega) hlp) ?_
        refine lv_bipush (v := (-9)) hx hb dX4_most_86 (by decide) ?_
        refine lv_icmp_ne (tgt := 94) hx hb dX4_most_88 (by decide) (fun c88 => ?_) (fun c88 => ?_)
        · skip
          refine lv_iload_n hx hb dX4_most_94 rfl (lv_at hl 2 rfl) ?_
          refine lv_aload_n hx hb dX4_most_95 rfl (lv_at hl 0 rfl) ?_
          refine xget F hP inX4_most_X4 0 rfl rfl 5 (by decide) lkX4_most_2 rfl dX4_most_96 ?_
          refine xget F hP inX4_most_X2 4 rfl rfl 4 (by decide) lkX4_most_4 rfl dX4_most_99 ?_
          refine lv_iload hx hb dX4_most_102 (lv_at hl 3 rfl) ?_
          refine xald F hP 9 (v := ((noteF E (lpB W) (enS (tlT B sk ek) 12 (lpB W) 0) 40) i)) rfl (by omega) (by omega) rfl dX4_most_104 ?_
          refine sti (show ((noteF E (lpB W) (enS (tlT B sk ek) 12 (lpB W) 0) 40) i) = ((enS (tlT B sk ek) 12 (lpB W) 0) i) from note_at (by omega) (by omega) hlp) ?_
          refine va_mmax hx hb (hml.trans hl.1.symm) hown (F.lk lkX4_most_5) (F.lk lkX4_most_6) (F.lk lkX4_most_7) (F.lk lkX4_most_8) (Nat.le_of_ble_eq_true rfl) (Nat.le_of_ble_eq_true rfl) (Nat.le_of_ble_eq_true rfl) (Nat.le_of_ble_eq_true rfl) dX4_most_105 ?_
          refine lv_istore_n (lv' := [(3, .int (if m < ((enS (tlT B sk ek) 12 (lpB W) 0) i) then ((enS (tlT B sk ek) 12 (lpB W) 0) i) else m)), (0, .ref x0), (1, .long (lfM W)), (4, .int (nI i))]) hx hb dX4_most_108 rfl hl (by decide) rfl (fun ls hl => ?_)
          refine lv_iinc (v := (nI (i + 1))) (lv' := [(4, .int (nI (i + 1))), (3, .int (if m < ((enS (tlT B sk ek) 12 (lpB W) 0) i) then ((enS (tlT B sk ek) 12 (lpB W) 0) i) else m)), (0, .ref x0), (1, .long (lfM W))]) hx hb dX4_most_109 hl (k := 3) rfl (iincP i 1) (by decide) rfl (fun ls hl => ?_)
          refine lv_goto (tgt := 57) hx hb dX4_most_112 (by decide) ?_
          exact ih57 (i + 1, (if m < ((enS (tlT B sk ek) 12 (lpB W) 0) i) then ((enS (tlT B sk ek) 12 (lpB W) 0) i) else m)) (show (if m < ((enS (tlT B sk ek) 12 (lpB W) 0) i) then ((enS (tlT B sk ek) 12 (lpB W) 0) i) else m) = moF (lpB W) (enS (tlT B sk ek) 12 (lpB W) 0) ((i + 1) - 1) ∧ (if m < ((enS (tlT B sk ek) 12 (lpB W) 0) i) then ((enS (tlT B sk ek) 12 (lpB W) 0) i) else m) ≠ -9 ∧ 1 ≤ (i + 1) ∧ (i + 1) ≤ 41 from (⟨(mo_step hi1 hm h9 hlp c88).1, (mo_step hi1 hm h9 hlp c88).2, by omega, by omega⟩)) (show 41 - (i + 1) < 41 - i from (by omega)) _ _ _ hP hD hS (lv_sub hl [2, 3, 1, 0] rfl)
        · skip
          refine lv_bipush (v := (-9)) hx hb dX4_most_91 (by decide) ?_
          exact rtI F hP hD hS dX4_most_93 (by rw [show (if cnS (lpB W) = 0 then 3 else 0) = 0 from (by rw [if_neg hc0])]; exact ⟨_, _, _, _, _, _, by rw [rsp_0]; exact (mo_bad hi1 (by omega) hm h9 hlp c88).symm, rfl, hC9⟩)
      · skip
        refine lv_goto (tgt := 109) hx hb dX4_most_73 (by decide) ?_
        refine lv_iinc (v := (nI (i + 1))) (lv' := [(4, .int (nI (i + 1))), (0, .ref x0), (1, .long (lfM W)), (3, .int m)]) hx hb dX4_most_109 hl (k := 3) rfl (iincP i 1) (by decide) rfl (fun ls hl => ?_)
        refine lv_goto (tgt := 57) hx hb dX4_most_112 (by decide) ?_
        exact ih57 (i + 1, m) (show m = moF (lpB W) (enS (tlT B sk ek) 12 (lpB W) 0) ((i + 1) - 1) ∧ m ≠ -9 ∧ 1 ≤ (i + 1) ∧ (i + 1) ≤ 41 from (⟨mo_skip hi1 hm h9 (by have := c70; rw [bitL_lfM] at this; simpa using this), h9, by omega, by omega⟩)) (show 41 - (i + 1) < 41 - i from (by omega)) _ _ _ hP hD hS (lv_sub hl [1, 2, 3, 0] rfl)
  · skip
    have hc0 : cnS (lpB W) = 0 := (lf0 W).mp c11
    refine lv_aload_n hx hb dX4_most_14 rfl (lv_at hl 1 rfl) ?_
    refine lv_bipush (v := (-3)) hx hb dX4_most_15 (by decide) ?_
    refine cVI (As := [.int (-3)]) (rest := []) F (c_X4_refuse l g x0 h0 d0 k0 b0 a0 t0 r0 r1 ik rn rf (-3) 3 (by decide) (by omega) (by omega)) kX4_refuse rfl gX4_most_X4_refuse rfl rfl ⟨Nat.le_of_ble_eq_true rfl, Nat.le_of_ble_eq_true rfl⟩ hP hD hS [0, 10] [1, 2, 3, 4, 5, 6, 7, 8, 9] rfl rfl 0 rfl rfl hl.1 rfl rfl (Nat.le_of_ble_eq_true rfl) dX4_most_17 ⟨Nat.le_of_ble_eq_true rfl, Nat.le_of_ble_eq_true rfl⟩ (fun rz w1 H locs hpo hP hD hS => ?_)
    obtain ⟨rfl, rfl⟩ := hpo
    obtain ⟨hP, hD⟩ := nx (ws' := [(x0, .inr (4, [.ref h0, .ref d0, .ref k0, .int (nI ik), .ref b0, .ref a0, .ref t0, .ref r0, .int (nI rn), .ref r1])), (h0, .inr (0, [.ref h1, .ref h2, .int (nI sk), .int (nI ek), .int (nI tr)])), (h1, .inl (eI g, 41, .inl (fun j => nI (W j)))), (h2, .inl (eI g, 5, .inl (fun j => nI (B j)))), (a0, .inr (2, [.ref a1, .ref a2, .ref a3, .int (nI ka), .ref a5])), (a1, .inl (eJ g, 1476, .inr (.inl T))), (a2, .inl (eI g, 4, .inl (fun j => nI (Lb j)))), (a3, .inr (1, [.ref a4, .int (nI n2)])), (a4, .inl (eI g, 7, .inl (fun j => nI (q2 j)))), (a5, .inl (eI g, 41, .inl E)), (r1, .inl (eI g, 7, .inl (bump rf 3)))]) hP hD [9, 0, 1, 2, 3, 4, 5, 6, 7, 8, 10] (ndB_ok _ rfl) rfl
    exact rtI F hP hD hS dX4_most_20 (by rw [show (if cnS (lpB W) = 0 then 3 else 0) = 3 from (by first | (exfalso; omega) | ((try simp only [true_and, and_true]); (repeat (first | rw [if_pos (by omega)] | rw [if_neg (by omega)])) <;> rfl))]; first | done | exact ⟨T, ka, Lb, q2, n2, E, by rfl, by rfl, hC⟩)

theorem inX5_most_X5 : ∀ w ∈ u_ws RX5 TX5 20, w ∈ wsX5_most := fun _ h => (List.mem_cons_of_mem _ (List.mem_append_right _ h))
theorem lkX5_most_1 : Cond.fieldLink RX5 19 "StripInFiveStepsModel" "now" "[I" ∈ wsX5_most := List.mem_of_getElem? (i := 1) rfl
theorem lkX5_most_3 : Cond.static Lib.Math.max.name ∈ wsX5_most := List.mem_of_getElem? (i := 3) rfl
theorem lkX5_most_4 : Cond.initialized "java/lang/Math" ∈ wsX5_most := List.mem_of_getElem? (i := 4) rfl
theorem lkX5_most_5 : Cond.code Lib.Math.max.name Lib.Math.max.code 2 (some .int) ∈ wsX5_most := List.mem_of_getElem? (i := 5) rfl
theorem lkX5_most_2 : Cond.methodLink RX5 90 Lib.Math.max.name ∈ wsX5_most := List.mem_of_getElem? (i := 2) rfl
theorem kX5_most : Cal yX5_most wsX5_most cX5_most 4 (some .int) 0 := ⟨⟨_, rfl⟩, by decide +kernel⟩
set_option maxHeartbeats 1000000 in
set_option maxRecDepth 100000 in
theorem c_X5_most (l : Launch) (g : EE) (m0 : Nat) (m1 : Nat) (m2 : Nat) (m3 : Nat) (m4 : Nat) (m5 : Nat) (m6 : Nat) (m7 : Nat) (m8 : Nat) (m9 : Nat) (m10 : Nat) (m11 : Nat) (m12 : Nat) (m13 : Nat) (m14 : Nat) (kp : Nat) (rn : Nat) (tn : Nat) (ia : Nat) (wl : Nat) (si : Nat) (S : Nat → Nat) (O : Nat → Int32) (Y : Nat → Nat) (Z : Nat → Nat) (M : Nat → Nat) (rf : Nat → Int32) (hO : okS S) : CI l yX5_most wsX5_most ({ frames := 9, cells := 0, slots := 0, locals := 209 }) g [.ref m0] [(m0, .inr (5, [.ref m1, .ref m2, .ref m3, .int (nI kp), .ref m4, .ref m5, .ref m6, .ref m7, .ref m8, .int (nI rn), .ref m9, .int (nI tn), .int (nI ia), .int (nI wl), .ref m10, .ref m11, .ref m12, .int (nI si), .ref m13, .ref m14])), (m2, .inl (eI g, 49, .inl (fun j => nI (S j)))), (m4, .inl (eI g, 41, .inl O)), (m5, .inl (eI g, 9, .inl (fun j => nI (Y j)))), (m6, .inl (eI g, 9, .inl (fun j => nI (Z j)))), (m7, .inl (eI g, 49, .inl (fun j => nI (M j)))), (m1, .inl (eI g, 7, .inl rf))] (fun (rz : Int32) (wz : va_W) => ∃ O9 : Nat → Int32, ∃ Y9 : Nat → Nat, ∃ Z9 : Nat → Nat, ∃ M9 : Nat → Nat, rz = (rsp (if cnS (lpB S) = 0 then 3 else 0) (moF (lpB S) (enS (tlS S) 12 (lpB S) 0) 40)) ∧ wz = [(m0, .inr (5, [.ref m1, .ref m2, .ref m3, .int (nI kp), .ref m4, .ref m5, .ref m6, .ref m7, .ref m8, .int (nI rn), .ref m9, .int (nI tn), .int (nI ia), .int (nI wl), .ref m10, .ref m11, .ref m12, .int (nI si), .ref m13, .ref m14])), (m2, .inl (eI g, 49, .inl (fun j => nI (S j)))), (m4, .inl (eI g, 41, .inl O9)), (m5, .inl (eI g, 9, .inl (fun j => nI (Y9 j)))), (m6, .inl (eI g, 9, .inl (fun j => nI (Z9 j)))), (m7, .inl (eI g, 49, .inl (fun j => nI (M9 j)))), (m1, .inl (eI g, 7, .inl (bump rf (if cnS (lpB S) = 0 then 3 else 0))))]) 0 0 := by
  refine ctI (cc := cX5_most) (maxL := 4) (ret := (some .int)) (by decide) rfl (Nat.le_of_ble_eq_true rfl) ?_
  intro p_ e_ s_ m_ bl_ mt_ cd_ A ls F hnm hP hD hS hl
  obtain ⟨hx, hb, hml, hown, hts, hK, hX, hA, hrt_, hlocks⟩ := id F
  have hl : lv_has ls 4 [(0, .ref m0)] := hl
  obtain ⟨hw40, ⟨h41a, h41b⟩, ⟨h42a, h42b⟩, h43, h44, h45, h46, h47, h48⟩ := id hO
  refine lv_aload_n hx hb dX5_most_0 rfl (lv_at hl 0 rfl) ?_
  refine cVI (As := []) (rest := []) F (c_X5_isEmpty l g m0 m1 m2 m3 m4 m5 m6 m7 m8 m9 m10 m11 m12 m13 m14 kp rn tn ia wl si S (hO)) kX5_isEmpty rfl gX5_most_X5_isEmpty rfl rfl ⟨Nat.le_of_ble_eq_true rfl, Nat.le_of_ble_eq_true rfl⟩ hP hD hS [0, 1] [2, 3, 4, 5, 6] rfl rfl 0 rfl rfl hl.1 rfl rfl (Nat.le_of_ble_eq_true rfl) dX5_most_1 ⟨Nat.le_of_ble_eq_true rfl, Nat.le_of_ble_eq_true rfl⟩ (fun rz w1 H locs hpo hP hD hS => ?_)
  obtain ⟨rfl, rfl⟩ := hpo
  obtain ⟨hP, hD⟩ := nx (ws' := [(m0, .inr (5, [.ref m1, .ref m2, .ref m3, .int (nI kp), .ref m4, .ref m5, .ref m6, .ref m7, .ref m8, .int (nI rn), .ref m9, .int (nI tn), .int (nI ia), .int (nI wl), .ref m10, .ref m11, .ref m12, .int (nI si), .ref m13, .ref m14])), (m2, .inl (eI g, 49, .inl (fun j => nI (S j)))), (m4, .inl (eI g, 41, .inl O)), (m5, .inl (eI g, 9, .inl (fun j => nI (Y j)))), (m6, .inl (eI g, 9, .inl (fun j => nI (Z j)))), (m7, .inl (eI g, 49, .inl (fun j => nI (M j)))), (m1, .inl (eI g, 7, .inl rf))]) hP hD [5, 6, 0, 1, 2, 3, 4] (ndB_ok _ rfl) rfl
  refine bqeq (tgt := 14) hx hb dX5_most_4 (by decide) (fun c4 => ?_) (fun c4 => ?_)
  · skip
    have hc0 : ¬ cnS (lpB S) = 0 := fun z => c4 ((em0 S).mpr z)
    refine lv_iconst (v := (nI 0)) hx hb dX5_most_14 (by decide) ?_
    refine lv_istore_n (lv' := [(1, .int (nI 0)), (0, .ref m0)]) hx hb dX5_most_15 rfl hl (by decide) rfl (fun ls hl => ?_)
    refine lv_iconst (v := (nI 1)) hx hb dX5_most_16 (by decide) ?_
    refine lv_istore_n (lv' := [(2, .int (nI 1)), (1, .int (nI 0)), (0, .ref m0)]) hx hb dX5_most_17 rfl hl (by decide) rfl (fun ls hl => ?_)
    refine xlo (σ := Nat × Int32 × (Nat → Int32) × (Nat → Nat) × (Nat → Nat) × (Nat → Nat)) 4 (fun xz_ => (fun (i : Nat) (m : Int32) (o : Nat → Int32) (y2 : Nat → Nat) (z2 : Nat → Nat) (m_ : Nat → Nat) => [(0, .ref m0), (1, .int m), (2, .int (nI i))]) xz_.1 xz_.2.1 xz_.2.2.1 xz_.2.2.2.1 xz_.2.2.2.2.1 xz_.2.2.2.2.2) (fun xz_ => (fun (i : Nat) (m : Int32) (o : Nat → Int32) (y2 : Nat → Nat) (z2 : Nat → Nat) (m_ : Nat → Nat) => [(m0, .inr (5, [.ref m1, .ref m2, .ref m3, .int (nI kp), .ref m4, .ref m5, .ref m6, .ref m7, .ref m8, .int (nI rn), .ref m9, .int (nI tn), .int (nI ia), .int (nI wl), .ref m10, .ref m11, .ref m12, .int (nI si), .ref m13, .ref m14])), (m2, .inl (eI g, 49, .inl (fun j => nI (S j)))), (m4, .inl (eI g, 41, .inl o)), (m5, .inl (eI g, 9, .inl (fun j => nI (y2 j)))), (m6, .inl (eI g, 9, .inl (fun j => nI (z2 j)))), (m7, .inl (eI g, 49, .inl (fun j => nI (m_ j)))), (m1, .inl (eI g, 7, .inl rf))]) xz_.1 xz_.2.1 xz_.2.2.1 xz_.2.2.2.1 xz_.2.2.2.2.1 xz_.2.2.2.2.2) (fun xz_ => (fun (i : Nat) (m : Int32) (o : Nat → Int32) (y2 : Nat → Nat) (z2 : Nat → Nat) (m_ : Nat → Nat) => m = moF (lpB S) (enS (tlS S) 12 (lpB S) 0) (i - 1) ∧ m ≠ -9 ∧ 1 ≤ i ∧ i ≤ 41) xz_.1 xz_.2.1 xz_.2.2.1 xz_.2.2.2.1 xz_.2.2.2.2.1 xz_.2.2.2.2.2) (fun xz_ => (fun (i : Nat) (m : Int32) (o : Nat → Int32) (y2 : Nat → Nat) (z2 : Nat → Nat) (m_ : Nat → Nat) => 41 - i) xz_.1 xz_.2.1 xz_.2.2.1 xz_.2.2.2.1 xz_.2.2.2.2.1 xz_.2.2.2.2.2) (fun xz_ hI ih18 H locs ls hP hD hS hl => ?_) (1, (nI 0), O, Y, Z, M) (show (nI 0) = moF (lpB S) (enS (tlS S) 12 (lpB S) 0) (1 - 1) ∧ (nI 0) ≠ -9 ∧ 1 ≤ 1 ∧ 1 ≤ 41 from (⟨rfl, by decide, by omega, by omega⟩)) hP hD hS (lv_sub hl [2, 1, 0] rfl)
    obtain ⟨i, m, o, y2, z2, m_⟩ := xz_
    have hP : va_P (eD g) vwCl [(m0, .inr (5, [.ref m1, .ref m2, .ref m3, .int (nI kp), .ref m4, .ref m5, .ref m6, .ref m7, .ref m8, .int (nI rn), .ref m9, .int (nI tn), .int (nI ia), .int (nI wl), .ref m10, .ref m11, .ref m12, .int (nI si), .ref m13, .ref m14])), (m2, .inl (eI g, 49, .inl (fun j => nI (S j)))), (m4, .inl (eI g, 41, .inl o)), (m5, .inl (eI g, 9, .inl (fun j => nI (y2 j)))), (m6, .inl (eI g, 9, .inl (fun j => nI (z2 j)))), (m7, .inl (eI g, 49, .inl (fun j => nI (m_ j)))), (m1, .inl (eI g, 7, .inl rf))] H := hP
    have hD : va_D A [(m0, .inr (5, [.ref m1, .ref m2, .ref m3, .int (nI kp), .ref m4, .ref m5, .ref m6, .ref m7, .ref m8, .int (nI rn), .ref m9, .int (nI tn), .int (nI ia), .int (nI wl), .ref m10, .ref m11, .ref m12, .int (nI si), .ref m13, .ref m14])), (m2, .inl (eI g, 49, .inl (fun j => nI (S j)))), (m4, .inl (eI g, 41, .inl o)), (m5, .inl (eI g, 9, .inl (fun j => nI (y2 j)))), (m6, .inl (eI g, 9, .inl (fun j => nI (z2 j)))), (m7, .inl (eI g, 49, .inl (fun j => nI (m_ j)))), (m1, .inl (eI g, 7, .inl rf))] := hD
    have hl : lv_has ls 4 [(0, .ref m0), (1, .int m), (2, .int (nI i))] := hl
    have hI18 : m = moF (lpB S) (enS (tlS S) 12 (lpB S) 0) (i - 1) ∧ m ≠ -9 ∧ 1 ≤ i ∧ i ≤ 41 := hI
    clear hI
    obtain ⟨hm, h9, hi1, hi2⟩ := id hI18
    refine lv_iload_n hx hb dX5_most_18 rfl (lv_at hl 2 rfl) ?_
    refine lv_bipush (v := (nI 40)) hx hb dX5_most_19 (by decide) ?_
    refine xgt (tgt := 60) hx hb dX5_most_21 (by decide) (by omega) (by omega) (fun c21 => ?_) (fun c21 => ?_)
    · skip
      refine lv_iload_n hx hb dX5_most_60 rfl (lv_at hl 1 rfl) ?_
      exact rtI F hP hD hS dX5_most_61 (by rw [show (if cnS (lpB S) = 0 then 3 else 0) = 0 from (by rw [if_neg hc0])]; exact ⟨_, _, _, _, by rw [rsp_0, hm, show i - 1 = 40 by omega], rfl⟩)
    · skip
      refine lv_aload_n hx hb dX5_most_24 rfl (lv_at hl 0 rfl) ?_
      refine xget F hP inX5_most_X5 0 rfl rfl 1 (by decide) lkX5_most_1 rfl dX5_most_25 ?_
      refine lv_iload_n hx hb dX5_most_28 rfl (lv_at hl 2 rfl) ?_
      refine xald F hP 1 (v := (nI (S i))) rfl (by omega) (by omega) rfl dX5_most_29 ?_
      have hbd2 := hO.1 (i) (by omega)
      refine zle (tgt := 54) hx hb dX5_most_30 (by decide) (by omega) (fun c30 => ?_) (fun c30 => ?_)
      · skip
        refine lv_iinc (v := (nI (i + 1))) (lv' := [(2, .int (nI (i + 1))), (0, .ref m0), (1, .int m)]) hx hb dX5_most_54 hl (k := 2) rfl (iincP i 1) (by decide) rfl (fun ls hl => ?_)
        refine lv_goto (tgt := 18) hx hb dX5_most_57 (by decide) ?_
        exact ih18 (i + 1, m, o, y2, z2, m_) (show m = moF (lpB S) (enS (tlS S) 12 (lpB S) 0) ((i + 1) - 1) ∧ m ≠ -9 ∧ 1 ≤ (i + 1) ∧ (i + 1) ≤ 41 from (⟨mo_skip hi1 hm h9 (lp_off c30), h9, by omega, by omega⟩)) (show 41 - (i + 1) < 41 - i from (by omega)) _ _ _ hP hD hS (lv_sub hl [1, 2, 0] rfl)
      · skip
        have hlp : lpB S i = true := lp_on (by omega) (by omega) c30
        refine lv_aload_n hx hb dX5_most_33 rfl (lv_at hl 0 rfl) ?_
        refine lv_iload_n hx hb dX5_most_34 rfl (lv_at hl 2 rfl) ?_
        refine cVI (As := [.int (nI i)]) (rest := []) F (c_X5_enoughFor l g m0 m1 m2 m3 m4 m5 m6 m7 m8 m9 m10 m11 m12 m13 m14 kp rn tn ia wl si S o y2 z2 m_ i (hO) (hi1) (by omega) (hlp)) kX5_enoughFor rfl gX5_most_X5_enoughFor rfl rfl ⟨Nat.le_of_ble_eq_true rfl, Nat.le_of_ble_eq_true rfl⟩ hP hD hS [0, 1, 2, 3, 4, 5] [6] rfl rfl 0 rfl rfl hl.1 rfl rfl (Nat.le_of_ble_eq_true rfl) dX5_most_35 ⟨Nat.le_of_ble_eq_true rfl, Nat.le_of_ble_eq_true rfl⟩ (fun rz w1 H locs hpo hP hD hS => ?_)
        obtain ⟨O9_3, Y9_3, Z9_3, M9_3, rfl, rfl⟩ := hpo
        obtain ⟨hP, hD⟩ := nx (ws' := [(m0, .inr (5, [.ref m1, .ref m2, .ref m3, .int (nI kp), .ref m4, .ref m5, .ref m6, .ref m7, .ref m8, .int (nI rn), .ref m9, .int (nI tn), .int (nI ia), .int (nI wl), .ref m10, .ref m11, .ref m12, .int (nI si), .ref m13, .ref m14])), (m2, .inl (eI g, 49, .inl (fun j => nI (S j)))), (m4, .inl (eI g, 41, .inl O9_3)), (m5, .inl (eI g, 9, .inl (fun j => nI (Y9_3 j)))), (m6, .inl (eI g, 9, .inl (fun j => nI (Z9_3 j)))), (m7, .inl (eI g, 49, .inl (fun j => nI (M9_3 j)))), (m1, .inl (eI g, 7, .inl rf))]) hP hD [1, 2, 3, 4, 5, 6, 0] (ndB_ok _ rfl) rfl
        refine lv_istore_n (lv' := [(3, .int (enS (tlS S) 12 (lpB S) 0 i)), (0, .ref m0), (1, .int m), (2, .int (nI i))]) hx hb dX5_most_38 rfl hl (by decide) rfl (fun ls hl => ?_)
        refine lv_iload_n hx hb dX5_most_39 rfl (lv_at hl 0 rfl) ?_
        refine lv_bipush (v := (-9)) hx hb dX5_most_40 (by decide) ?_
        refine lv_icmp_ne (tgt := 48) hx hb dX5_most_42 (by decide) (fun c42 => ?_) (fun c42 => ?_)
        · skip
          refine lv_iload_n hx hb dX5_most_48 rfl (lv_at hl 2 rfl) ?_
          refine lv_iload_n hx hb dX5_most_49 rfl (lv_at hl 0 rfl) ?_
          refine va_mmax hx hb (hml.trans hl.1.symm) hown (F.lk lkX5_most_2) (F.lk lkX5_most_3) (F.lk lkX5_most_4) (F.lk lkX5_most_5) (Nat.le_of_ble_eq_true rfl) (Nat.le_of_ble_eq_true rfl) (Nat.le_of_ble_eq_true rfl) (Nat.le_of_ble_eq_true rfl) dX5_most_50 ?_
          refine lv_istore_n (lv' := [(1, .int (if m < (enS (tlS S) 12 (lpB S) 0 i) then (enS (tlS S) 12 (lpB S) 0 i) else m)), (3, .int (enS (tlS S) 12 (lpB S) 0 i)), (0, .ref m0), (2, .int (nI i))]) hx hb dX5_most_53 rfl hl (by decide) rfl (fun ls hl => ?_)
          refine lv_iinc (v := (nI (i + 1))) (lv' := [(2, .int (nI (i + 1))), (1, .int (if m < (enS (tlS S) 12 (lpB S) 0 i) then (enS (tlS S) 12 (lpB S) 0 i) else m)), (3, .int (enS (tlS S) 12 (lpB S) 0 i)), (0, .ref m0)]) hx hb dX5_most_54 hl (k := 3) rfl (iincP i 1) (by decide) rfl (fun ls hl => ?_)
          refine lv_goto (tgt := 18) hx hb dX5_most_57 (by decide) ?_
          exact ih18 (i + 1, (if m < (enS (tlS S) 12 (lpB S) 0 i) then (enS (tlS S) 12 (lpB S) 0 i) else m), O9_3, Y9_3, Z9_3, M9_3) (show (if m < (enS (tlS S) 12 (lpB S) 0 i) then (enS (tlS S) 12 (lpB S) 0 i) else m) = moF (lpB S) (enS (tlS S) 12 (lpB S) 0) ((i + 1) - 1) ∧ (if m < (enS (tlS S) 12 (lpB S) 0 i) then (enS (tlS S) 12 (lpB S) 0 i) else m) ≠ -9 ∧ 1 ≤ (i + 1) ∧ (i + 1) ≤ 41 from (⟨(mo_step hi1 hm h9 hlp c42).1, (mo_step hi1 hm h9 hlp c42).2, by omega, by omega⟩)) (show 41 - (i + 1) < 41 - i from (by omega)) _ _ _ hP hD hS (lv_sub hl [3, 1, 0] rfl)
        · skip
          refine lv_bipush (v := (-9)) hx hb dX5_most_45 (by decide) ?_
          exact rtI F hP hD hS dX5_most_47 (by rw [show (if cnS (lpB S) = 0 then 3 else 0) = 0 from (by rw [if_neg hc0])]; exact ⟨_, _, _, _, by rw [rsp_0]; exact (mo_bad hi1 (by omega) hm h9 hlp c42).symm, rfl⟩)
  · skip
    have hc0 : cnS (lpB S) = 0 := (em0 S).mp c4
    refine lv_aload_n hx hb dX5_most_7 rfl (lv_at hl 0 rfl) ?_
    refine lv_bipush (v := (-3)) hx hb dX5_most_8 (by decide) ?_
    refine cVI (As := [.int (-3)]) (rest := []) F (c_X5_no l g m0 m1 m2 m3 m4 m5 m6 m7 m8 m9 m10 m11 m12 m13 m14 kp rn tn ia wl si rf (-3) 3 (by decide) (by omega) (by omega)) kX5_no rfl gX5_most_X5_no rfl rfl ⟨Nat.le_of_ble_eq_true rfl, Nat.le_of_ble_eq_true rfl⟩ hP hD hS [0, 6] [1, 2, 3, 4, 5] rfl rfl 0 rfl rfl hl.1 rfl rfl (Nat.le_of_ble_eq_true rfl) dX5_most_10 ⟨Nat.le_of_ble_eq_true rfl, Nat.le_of_ble_eq_true rfl⟩ (fun rz w1 H locs hpo hP hD hS => ?_)
    obtain ⟨rfl, rfl⟩ := hpo
    obtain ⟨hP, hD⟩ := nx (ws' := [(m0, .inr (5, [.ref m1, .ref m2, .ref m3, .int (nI kp), .ref m4, .ref m5, .ref m6, .ref m7, .ref m8, .int (nI rn), .ref m9, .int (nI tn), .int (nI ia), .int (nI wl), .ref m10, .ref m11, .ref m12, .int (nI si), .ref m13, .ref m14])), (m2, .inl (eI g, 49, .inl (fun j => nI (S j)))), (m4, .inl (eI g, 41, .inl O)), (m5, .inl (eI g, 9, .inl (fun j => nI (Y j)))), (m6, .inl (eI g, 9, .inl (fun j => nI (Z j)))), (m7, .inl (eI g, 49, .inl (fun j => nI (M j)))), (m1, .inl (eI g, 7, .inl (bump rf 3)))]) hP hD [5, 0, 1, 2, 3, 4, 6] (ndB_ok _ rfl) rfl
    exact rtI F hP hD hS dX5_most_13 (by rw [show (if cnS (lpB S) = 0 then 3 else 0) = 3 from (by first | (exfalso; omega) | ((try simp only [true_and, and_true]); (repeat (first | rw [if_pos (by omega)] | rw [if_neg (by omega)])) <;> rfl))]; first | done | exact ⟨_, _, _, _, by rfl, by rfl⟩)

theorem inX4_lots_X4 : ∀ w ∈ u_ws RX4 TX4 10, w ∈ wsX4_lots := fun _ h => (List.mem_cons_of_mem _ (List.mem_append_left _ (List.mem_append_left _ (List.mem_append_left _ (List.mem_append_right _ h)))))
theorem lkX4_lots_1 : Cond.fieldLink RX4 10 "StripInFiveSteps" "now" "LStripInFiveSteps$Shed;" ∈ wsX4_lots := List.mem_of_getElem? (i := 1) rfl
theorem lkX4_lots_2 : Cond.fieldLink RX4 36 "StripInFiveSteps" "strips" "LStripInFiveSteps$Strips;" ∈ wsX4_lots := List.mem_of_getElem? (i := 2) rfl
theorem inX4_lots_X0 : ∀ w ∈ u_ws RX0 TX0 5, w ∈ wsX4_lots := fun _ h => (List.mem_cons_of_mem _ (List.mem_append_left _ (List.mem_append_left _ (List.mem_append_right _ h))))
theorem lkX4_lots_3 : Cond.fieldLink RX4 99 "StripInFiveSteps$Shed" "stripKind" "I" ∈ wsX4_lots := List.mem_of_getElem? (i := 3) rfl
theorem lkX4_lots_4 : Cond.constant RX4 235 (1664525) ∈ wsX4_lots := List.mem_of_getElem? (i := 4) rfl
theorem lkX4_lots_5 : Cond.constant RX4 236 (1013904223) ∈ wsX4_lots := List.mem_of_getElem? (i := 5) rfl
theorem lkX4_lots_6 : Cond.constant RX4 237 (2147483647) ∈ wsX4_lots := List.mem_of_getElem? (i := 6) rfl
theorem inX4_lots_X2 : ∀ w ∈ u_ws RX2 TX2 5, w ∈ wsX4_lots := fun _ h => (List.mem_cons_of_mem _ (List.mem_append_left _ (List.mem_append_right _ h)))
theorem lkX4_lots_7 : Cond.fieldLink RX4 198 "StripInFiveSteps$Strips" "enoughFor" "[I" ∈ wsX4_lots := List.mem_of_getElem? (i := 7) rfl
theorem kX4_lots : Cal yX4_lots wsX4_lots cX4_lots 9 (some .int) 2 := ⟨⟨_, rfl⟩, by decide +kernel⟩
set_option maxHeartbeats 1000000 in
set_option maxRecDepth 100000 in
theorem c_X4_lots (l : Launch) (g : EE) (x0 : Nat) (h0 : Nat) (d0 : Nat) (k0 : Nat) (b0 : Nat) (a0 : Nat) (t0 : Nat) (r0 : Nat) (r1 : Nat) (ik : Nat) (rn : Nat) (h1 : Nat) (h2 : Nat) (W : Nat → Nat) (B : Nat → Nat) (sk : Nat) (ek : Nat) (tr : Nat) (a1 : Nat) (a2 : Nat) (a3 : Nat) (a4 : Nat) (a5 : Nat) (T : Nat → Int64) (ka : Nat) (Lb : Nat → Nat) (q2 : Nat → Nat) (n2 : Nat) (E : Nat → Int32) (rf : Nat → Int32) (x : Int32) (y : Int32) (hW : ∀ j, W j ≤ 9) (hB : okB B) (hsk : sk ≤ 3) (hek : ek ≤ 4) (hC : Cch T Lb) : CI l yX4_lots wsX4_lots ({ frames := 18, cells := 0, slots := 0, locals := 507 }) g [.ref x0, .int x, .int y] [(x0, .inr (4, [.ref h0, .ref d0, .ref k0, .int (nI ik), .ref b0, .ref a0, .ref t0, .ref r0, .int (nI rn), .ref r1])), (h0, .inr (0, [.ref h1, .ref h2, .int (nI sk), .int (nI ek), .int (nI tr)])), (h1, .inl (eI g, 41, .inl (fun j => nI (W j)))), (h2, .inl (eI g, 5, .inl (fun j => nI (B j)))), (a0, .inr (2, [.ref a1, .ref a2, .ref a3, .int (nI ka), .ref a5])), (a1, .inl (eJ g, 1476, .inr (.inl T))), (a2, .inl (eI g, 4, .inl (fun j => nI (Lb j)))), (a3, .inr (1, [.ref a4, .int (nI n2)])), (a4, .inl (eI g, 7, .inl (fun j => nI (q2 j)))), (a5, .inl (eI g, 41, .inl E)), (r1, .inl (eI g, 7, .inl rf))] (fun (rz : Int32) (wz : va_W) => ∃ T9 : Nat → Int64, ∃ ka9 : Nat, ∃ Lb9 : Nat → Nat, ∃ q9 : Nat → Nat, ∃ n9 : Nat, ∃ E9 : Nat → Int32, rz = (rsp (if x.toInt < 1 then 4 else if 20 < x.toInt then 6 else 0) (ltS (lotF (lpB W) (enS (tlT B sk ek) 12 (lpB W) 0)) y x.toNatClampNeg)) ∧ wz = [(x0, .inr (4, [.ref h0, .ref d0, .ref k0, .int (nI ik), .ref b0, .ref a0, .ref t0, .ref r0, .int (nI rn), .ref r1])), (h0, .inr (0, [.ref h1, .ref h2, .int (nI sk), .int (nI ek), .int (nI tr)])), (h1, .inl (eI g, 41, .inl (fun j => nI (W j)))), (h2, .inl (eI g, 5, .inl (fun j => nI (B j)))), (a0, .inr (2, [.ref a1, .ref a2, .ref a3, .int (nI ka9), .ref a5])), (a1, .inl (eJ g, 1476, .inr (.inl T9))), (a2, .inl (eI g, 4, .inl (fun j => nI (Lb9 j)))), (a3, .inr (1, [.ref a4, .int (nI n9)])), (a4, .inl (eI g, 7, .inl (fun j => nI (q9 j)))), (a5, .inl (eI g, 41, .inl E9)), (r1, .inl (eI g, 7, .inl (bump rf (if x.toInt < 1 then 4 else if 20 < x.toInt then 6 else 0))))] ∧ Cch T9 Lb9) 0 0 := by
  refine ctI (cc := cX4_lots) (maxL := 9) (ret := (some .int)) (by decide) rfl (Nat.le_of_ble_eq_true rfl) ?_
  intro p_ e_ s_ m_ bl_ mt_ cd_ A ls F hnm hP hD hS hl
  obtain ⟨hx, hb, hml, hown, hts, hK, hX, hA, hrt_, hlocks⟩ := id F
  have hl : lv_has ls 9 [(0, .ref x0), (1, .int x), (2, .int y)] := hl
  obtain ⟨hb0, hb1, hb2, hb3, hb4, hb5⟩ := okB_b hB
  refine lv_iload_n hx hb dX4_lots_0 rfl (lv_at hl 1 rfl) ?_
  refine lv_iconst (v := (nI 1)) hx hb dX4_lots_1 (by decide) ?_
  refine yge (tgt := 12) hx hb dX4_lots_2 (by decide) (by omega) (fun c2 => ?_) (fun c2 => ?_)
  · skip
    refine lv_iload_n hx hb dX4_lots_12 rfl (lv_at hl 1 rfl) ?_
    refine lv_bipush (v := (nI 20)) hx hb dX4_lots_13 (by decide) ?_
    refine yle (tgt := 25) hx hb dX4_lots_15 (by decide) (by omega) (fun c15 => ?_) (fun c15 => ?_)
    · skip
      obtain ⟨k, hk_, rfl⟩ := natOf (x := x) (by omega)
      rw [nI_tI hk_] at c2
      rw [nI_tI hk_] at c15
      refine lv_aload_n hx hb dX4_lots_25 rfl (lv_at hl 0 rfl) ?_
      refine xget F hP inX4_lots_X4 0 rfl rfl 0 (by decide) lkX4_lots_1 rfl dX4_lots_26 ?_
      refine cVL (As := []) (rest := []) F (c_X0_left l g h0 h1 h2 W B sk ek tr (hW)) kX0_left rfl gX4_lots_X0_left rfl rfl ⟨Nat.le_of_ble_eq_true rfl, Nat.le_of_ble_eq_true rfl⟩ hP hD hS [1, 2, 3] [0, 4, 5, 6, 7, 8, 9, 10] rfl rfl 0 rfl rfl hl.1 rfl rfl (Nat.le_of_ble_eq_true rfl) dX4_lots_29 ⟨Nat.le_of_ble_eq_true rfl, Nat.le_of_ble_eq_true rfl⟩ (fun rz w1 H locs hpo hP hD hS => ?_)
      obtain ⟨rfl, rfl⟩ := hpo
      obtain ⟨hP, hD⟩ := nx (ws' := [(x0, .inr (4, [.ref h0, .ref d0, .ref k0, .int (nI ik), .ref b0, .ref a0, .ref t0, .ref r0, .int (nI rn), .ref r1])), (h0, .inr (0, [.ref h1, .ref h2, .int (nI sk), .int (nI ek), .int (nI tr)])), (h1, .inl (eI g, 41, .inl (fun j => nI (W j)))), (h2, .inl (eI g, 5, .inl (fun j => nI (B j)))), (a0, .inr (2, [.ref a1, .ref a2, .ref a3, .int (nI ka), .ref a5])), (a1, .inl (eJ g, 1476, .inr (.inl T))), (a2, .inl (eI g, 4, .inl (fun j => nI (Lb j)))), (a3, .inr (1, [.ref a4, .int (nI n2)])), (a4, .inl (eI g, 7, .inl (fun j => nI (q2 j)))), (a5, .inl (eI g, 41, .inl E)), (r1, .inl (eI g, 7, .inl rf))]) hP hD [0, 8, 9, 10, 1, 2, 3, 4, 5, 6, 7] (ndB_ok _ rfl) rfl
      refine lv_lstore_n (lv' := [(3, .long (lfM W)), (0, .ref x0), (1, .int (nI k)), (2, .int y)]) hx hb dX4_lots_32 rfl hl (by decide) rfl (fun ls hl => ?_)
      refine lv_aload_n hx hb dX4_lots_33 rfl (lv_at hl 1 rfl) ?_
      refine xget F hP inX4_lots_X4 0 rfl rfl 5 (by decide) lkX4_lots_2 rfl dX4_lots_34 ?_
      refine lv_aload_n hx hb dX4_lots_37 rfl (lv_at hl 1 rfl) ?_
      refine xget F hP inX4_lots_X4 0 rfl rfl 0 (by decide) lkX4_lots_1 rfl dX4_lots_38 ?_
      refine lv_aload_n hx hb dX4_lots_41 rfl (lv_at hl 1 rfl) ?_
      refine xget F hP inX4_lots_X4 0 rfl rfl 0 (by decide) lkX4_lots_1 rfl dX4_lots_42 ?_
      refine xget F hP inX4_lots_X0 1 rfl rfl 2 (by decide) lkX4_lots_3 rfl dX4_lots_45 ?_
      refine cVV (As := [.ref h0, .int (nI sk)]) (rest := []) F (c_X2_take l g a0 a1 a2 a3 a4 a5 T ka Lb q2 n2 h0 h1 h2 W B sk ek tr sk (hC) (hB) (hek) (hsk)) kX2_take rfl gX4_lots_X2_take rfl rfl ⟨Nat.le_of_ble_eq_true rfl, Nat.le_of_ble_eq_true rfl⟩ hP hD hS [4, 5, 6, 7, 8, 1, 2, 3] [0, 9, 10] rfl rfl 0 rfl rfl hl.1 rfl rfl (Nat.le_of_ble_eq_true rfl) dX4_lots_48 ⟨Nat.le_of_ble_eq_true rfl, Nat.le_of_ble_eq_true rfl⟩ (fun w1 H locs hpo hP hD hS => ?_)
      obtain ⟨T9_2, Lb9_2, q9_2, n9_2, rfl, hpo2⟩ := hpo
      obtain ⟨hP, hD⟩ := nx (ws' := [(x0, .inr (4, [.ref h0, .ref d0, .ref k0, .int (nI ik), .ref b0, .ref a0, .ref t0, .ref r0, .int (nI rn), .ref r1])), (h0, .inr (0, [.ref h1, .ref h2, .int (nI sk), .int (nI ek), .int (nI tr)])), (h1, .inl (eI g, 41, .inl (fun j => nI (W j)))), (h2, .inl (eI g, 5, .inl (fun j => nI (B j)))), (a0, .inr (2, [.ref a1, .ref a2, .ref a3, .int (nI (sk * 369)), .ref a5])), (a1, .inl (eJ g, 1476, .inr (.inl T9_2))), (a2, .inl (eI g, 4, .inl (fun j => nI (Lb9_2 j)))), (a3, .inr (1, [.ref a4, .int (nI n9_2)])), (a4, .inl (eI g, 7, .inl (fun j => nI (q9_2 j)))), (a5, .inl (eI g, 41, .inl E)), (r1, .inl (eI g, 7, .inl rf))]) hP hD [0, 8, 9, 10, 3, 4, 5, 6, 7, 1, 2] (ndB_ok _ rfl) rfl
      obtain ⟨hC9, hR9⟩ := hpo2
      refine lv_aload_n hx hb dX4_lots_51 rfl (lv_at hl 1 rfl) ?_
      refine xget F hP inX4_lots_X4 0 rfl rfl 5 (by decide) lkX4_lots_2 rfl dX4_lots_52 ?_
      refine lv_aload_n hx hb dX4_lots_55 rfl (lv_at hl 1 rfl) ?_
      refine xget F hP inX4_lots_X4 0 rfl rfl 0 (by decide) lkX4_lots_1 rfl dX4_lots_56 ?_
      refine lv_lload_n hx hb dX4_lots_59 rfl (lv_at hl 0 rfl) ?_
      refine lv_iconst (v := (nI 0)) hx hb dX4_lots_60 (by decide) ?_
      refine cVV (As := [.ref h0, .long (lfM W), .int (nI 0)]) (rest := []) F (c_X2_plan12 l g a0 a1 a2 a3 a5 T9_2 (sk * 369) h0 h1 h2 W B sk ek tr (tlT B sk ek) E (lfM W) (hR9) (by omega) (inS_lf W) (hW) (fun v r => tl9 (by omega) (by omega))) kX2_plan rfl gX4_lots_X2_plan rfl rfl ⟨Nat.le_of_ble_eq_true rfl, Nat.le_of_ble_eq_true rfl⟩ hP hD hS [4, 5, 9, 1, 2, 3] [0, 6, 7, 8, 10] rfl rfl 0 rfl rfl hl.1 rfl rfl (Nat.le_of_ble_eq_true rfl) dX4_lots_61 ⟨Nat.le_of_ble_eq_true rfl, Nat.le_of_ble_eq_true rfl⟩ (fun w1 H locs hpo hP hD hS => ?_)
      subst hpo
      obtain ⟨hP, hD⟩ := nx (ws' := [(x0, .inr (4, [.ref h0, .ref d0, .ref k0, .int (nI ik), .ref b0, .ref a0, .ref t0, .ref r0, .int (nI rn), .ref r1])), (h0, .inr (0, [.ref h1, .ref h2, .int (nI sk), .int (nI ek), .int (nI tr)])), (h1, .inl (eI g, 41, .inl (fun j => nI (W j)))), (h2, .inl (eI g, 5, .inl (fun j => nI (B j)))), (a0, .inr (2, [.ref a1, .ref a2, .ref a3, .int (nI (sk * 369)), .ref a5])), (a1, .inl (eJ g, 1476, .inr (.inl T9_2))), (a2, .inl (eI g, 4, .inl (fun j => nI (Lb9_2 j)))), (a3, .inr (1, [.ref a4, .int (nI n9_2)])), (a4, .inl (eI g, 7, .inl (fun j => nI (q9_2 j)))), (a5, .inl (eI g, 41, .inl (noteF E (bitL (lfM W)) (enS (tlT B sk ek) 12 (bitL (lfM W)) 0) 40))), (r1, .inl (eI g, 7, .inl rf))]) hP hD [0, 8, 9, 10, 5, 6, 1, 2, 3, 7, 4] (ndB_ok _ rfl) rfl
      rw [bitL_lfM] at hP hD
      have hP : va_P (eD g) vwCl [(x0, .inr (4, [.ref h0, .ref d0, .ref k0, .int (nI ik), .ref b0, .ref a0, .ref t0, .ref r0, .int (nI rn), .ref r1])), (h0, .inr (0, [.ref h1, .ref h2, .int (nI sk), .int (nI ek), .int (nI tr)])), (h1, .inl (eI g, 41, .inl (fun j => nI (W j)))), (h2, .inl (eI g, 5, .inl (fun j => nI (B j)))), (a0, .inr (2, [.ref a1, .ref a2, .ref a3, .int (nI (sk * 369)), .ref a5])), (a1, .inl (eJ g, 1476, .inr (.inl T9_2))), (a2, .inl (eI g, 4, .inl (fun j => nI (Lb9_2 j)))), (a3, .inr (1, [.ref a4, .int (nI n9_2)])), (a4, .inl (eI g, 7, .inl (fun j => nI (q9_2 j)))), (a5, .inl (eI g, 41, .inl (noteF E (lpB W) (enS (tlT B sk ek) 12 (lpB W) 0) 40))), (r1, .inl (eI g, 7, .inl rf))] H := hP
      have hD : va_D A [(x0, .inr (4, [.ref h0, .ref d0, .ref k0, .int (nI ik), .ref b0, .ref a0, .ref t0, .ref r0, .int (nI rn), .ref r1])), (h0, .inr (0, [.ref h1, .ref h2, .int (nI sk), .int (nI ek), .int (nI tr)])), (h1, .inl (eI g, 41, .inl (fun j => nI (W j)))), (h2, .inl (eI g, 5, .inl (fun j => nI (B j)))), (a0, .inr (2, [.ref a1, .ref a2, .ref a3, .int (nI (sk * 369)), .ref a5])), (a1, .inl (eJ g, 1476, .inr (.inl T9_2))), (a2, .inl (eI g, 4, .inl (fun j => nI (Lb9_2 j)))), (a3, .inr (1, [.ref a4, .int (nI n9_2)])), (a4, .inl (eI g, 7, .inl (fun j => nI (q9_2 j)))), (a5, .inl (eI g, 41, .inl (noteF E (lpB W) (enS (tlT B sk ek) 12 (lpB W) 0) 40))), (r1, .inl (eI g, 7, .inl rf))] := hD
      refine lv_iconst (v := (nI 0)) hx hb dX4_lots_64 (by decide) ?_
      refine lv_istore (lv' := [(5, .int (nI 0)), (3, .long (lfM W)), (0, .ref x0), (1, .int (nI k)), (2, .int y)]) hx hb dX4_lots_65 hl (by decide) rfl (fun ls hl => ?_)
      refine lv_iload_n hx hb dX4_lots_67 rfl (lv_at hl 4 rfl) ?_
      refine lv_istore (lv' := [(6, .int y), (5, .int (nI 0)), (3, .long (lfM W)), (0, .ref x0), (1, .int (nI k)), (2, .int y)]) hx hb dX4_lots_68 hl (by decide) rfl (fun ls hl => ?_)
      refine lv_iconst (v := (nI 0)) hx hb dX4_lots_70 (by decide) ?_
      refine lv_istore (lv' := [(7, .int (nI 0)), (6, .int y), (5, .int (nI 0)), (3, .long (lfM W)), (0, .ref x0), (1, .int (nI k)), (2, .int y)]) hx hb dX4_lots_71 hl (by decide) rfl (fun ls hl => ?_)
      refine xlo (σ := Nat × Int32 × Int32) 9 (fun xz_ => (fun (i : Nat) (sd : Int32) (am_ : Int32) => [(0, .ref x0), (1, .int (nI k)), (2, .int y), (3, .long (lfM W)), (5, .int am_), (6, .int sd), (7, .int (nI i))]) xz_.1 xz_.2.1 xz_.2.2) (fun xz_ => (fun (i : Nat) (sd : Int32) (am_ : Int32) => [(x0, .inr (4, [.ref h0, .ref d0, .ref k0, .int (nI ik), .ref b0, .ref a0, .ref t0, .ref r0, .int (nI rn), .ref r1])), (h0, .inr (0, [.ref h1, .ref h2, .int (nI sk), .int (nI ek), .int (nI tr)])), (h1, .inl (eI g, 41, .inl (fun j => nI (W j)))), (h2, .inl (eI g, 5, .inl (fun j => nI (B j)))), (a0, .inr (2, [.ref a1, .ref a2, .ref a3, .int (nI (sk * 369)), .ref a5])), (a1, .inl (eJ g, 1476, .inr (.inl T9_2))), (a2, .inl (eI g, 4, .inl (fun j => nI (Lb9_2 j)))), (a3, .inr (1, [.ref a4, .int (nI n9_2)])), (a4, .inl (eI g, 7, .inl (fun j => nI (q9_2 j)))), (a5, .inl (eI g, 41, .inl (noteF E (lpB W) (enS (tlT B sk ek) 12 (lpB W) 0) 40))), (r1, .inl (eI g, 7, .inl rf))]) xz_.1 xz_.2.1 xz_.2.2) (fun xz_ => (fun (i : Nat) (sd : Int32) (am_ : Int32) => sd = sdI y i ∧ am_ = ltS (lotF (lpB W) (enS (tlT B sk ek) 12 (lpB W) 0)) y i ∧ i ≤ k) xz_.1 xz_.2.1 xz_.2.2) (fun xz_ => (fun (i : Nat) (sd : Int32) (am_ : Int32) => k - i) xz_.1 xz_.2.1 xz_.2.2) (fun xz_ hI ih73 H locs ls hP hD hS hl => ?_) (0, y, (nI 0)) (show y = sdI y 0 ∧ (nI 0) = ltS (lotF (lpB W) (enS (tlT B sk ek) 12 (lpB W) 0)) y 0 ∧ 0 ≤ k from (⟨rfl, rfl, by omega⟩)) hP hD hS (lv_sub hl [4, 5, 6, 3, 2, 1, 0] rfl)
      obtain ⟨i, sd, am_⟩ := xz_
      have hP : va_P (eD g) vwCl [(x0, .inr (4, [.ref h0, .ref d0, .ref k0, .int (nI ik), .ref b0, .ref a0, .ref t0, .ref r0, .int (nI rn), .ref r1])), (h0, .inr (0, [.ref h1, .ref h2, .int (nI sk), .int (nI ek), .int (nI tr)])), (h1, .inl (eI g, 41, .inl (fun j => nI (W j)))), (h2, .inl (eI g, 5, .inl (fun j => nI (B j)))), (a0, .inr (2, [.ref a1, .ref a2, .ref a3, .int (nI (sk * 369)), .ref a5])), (a1, .inl (eJ g, 1476, .inr (.inl T9_2))), (a2, .inl (eI g, 4, .inl (fun j => nI (Lb9_2 j)))), (a3, .inr (1, [.ref a4, .int (nI n9_2)])), (a4, .inl (eI g, 7, .inl (fun j => nI (q9_2 j)))), (a5, .inl (eI g, 41, .inl (noteF E (lpB W) (enS (tlT B sk ek) 12 (lpB W) 0) 40))), (r1, .inl (eI g, 7, .inl rf))] H := hP
      have hD : va_D A [(x0, .inr (4, [.ref h0, .ref d0, .ref k0, .int (nI ik), .ref b0, .ref a0, .ref t0, .ref r0, .int (nI rn), .ref r1])), (h0, .inr (0, [.ref h1, .ref h2, .int (nI sk), .int (nI ek), .int (nI tr)])), (h1, .inl (eI g, 41, .inl (fun j => nI (W j)))), (h2, .inl (eI g, 5, .inl (fun j => nI (B j)))), (a0, .inr (2, [.ref a1, .ref a2, .ref a3, .int (nI (sk * 369)), .ref a5])), (a1, .inl (eJ g, 1476, .inr (.inl T9_2))), (a2, .inl (eI g, 4, .inl (fun j => nI (Lb9_2 j)))), (a3, .inr (1, [.ref a4, .int (nI n9_2)])), (a4, .inl (eI g, 7, .inl (fun j => nI (q9_2 j)))), (a5, .inl (eI g, 41, .inl (noteF E (lpB W) (enS (tlT B sk ek) 12 (lpB W) 0) 40))), (r1, .inl (eI g, 7, .inl rf))] := hD
      have hl : lv_has ls 9 [(0, .ref x0), (1, .int (nI k)), (2, .int y), (3, .long (lfM W)), (5, .int am_), (6, .int sd), (7, .int (nI i))] := hl
      have hI73 : sd = sdI y i ∧ am_ = ltS (lotF (lpB W) (enS (tlT B sk ek) 12 (lpB W) 0)) y i ∧ i ≤ k := hI
      clear hI
      obtain ⟨hsd, ha, hi2⟩ := id hI73
      refine lv_iload hx hb dX4_lots_73 (lv_at hl 6 rfl) ?_
      refine lv_iload_n hx hb dX4_lots_75 rfl (lv_at hl 1 rfl) ?_
      refine xge (tgt := 158) hx hb dX4_lots_76 (by decide) (by omega) (by omega) (fun c76 => ?_) (fun c76 => ?_)
      · skip
        refine lv_iload hx hb dX4_lots_158 (lv_at hl 4 rfl) ?_
        exact rtI F hP hD hS dX4_lots_160 (by rw [show (if (nI k).toInt < 1 then 4 else if 20 < (nI k).toInt then 6 else 0) = 0 from (by rw [nI_tI hk_, if_neg (by omega), if_neg (by omega)]), nI_clamp hk_]; exact ⟨_, _, _, _, _, _, by rw [rsp_0, ha, show i = k by omega], rfl, hC9⟩)
      · skip
        refine lv_iload hx hb dX4_lots_79 (lv_at hl 5 rfl) ?_
        refine lv_ldc (v := 1664525) hx hb hown (F.lk lkX4_lots_4) dX4_lots_81 ?_
        refine lv_imul hx hb dX4_lots_83 ?_
        refine lv_ldc (v := 1013904223) hx hb hown (F.lk lkX4_lots_5) dX4_lots_84 ?_
        refine lv_iadd hx hb dX4_lots_86 ?_
        refine lv_istore (lv' := [(6, .int ((sd * 1664525) + 1013904223)), (0, .ref x0), (1, .int (nI k)), (2, .int y), (3, .long (lfM W)), (5, .int am_), (7, .int (nI i))]) hx hb dX4_lots_87 hl (by decide) rfl (fun ls hl => ?_)
        refine lv_iload hx hb dX4_lots_89 (lv_at hl 0 rfl) ?_
        refine lv_ldc (v := 2147483647) hx hb hown (F.lk lkX4_lots_6) dX4_lots_91 ?_
        refine lv_iand hx hb dX4_lots_93 ?_
        obtain ⟨hle_, hlb_⟩ := lt31_ok ((sd * 1664525) + 1013904223)
        refine sti (show (((sd * 1664525) + 1013904223) &&& 2147483647) = nI (lt31 ((sd * 1664525) + 1013904223)) from hle_) ?_
        refine lv_sipush (v := (nI 256)) hx hb dX4_lots_94 (by decide) ?_
        refine xdiv hx hb (by omega) (by omega) (by omega) dX4_lots_97 ?_
        refine lv_bipush (v := (nI 40)) hx hb dX4_lots_98 (by decide) ?_
        refine xrem hx hb (by omega) (by omega) (by omega) dX4_lots_100 ?_
        refine lv_iconst (v := (nI 1)) hx hb dX4_lots_101 (by decide) ?_
        refine xadd hx hb dX4_lots_102 ?_
        obtain ⟨r, hr⟩ : ∃ r, r = lt31 ((sd * 1664525) + 1013904223) / 256 % 40 + 1 := ⟨_, rfl⟩
        refine sti (congrArg nI (show (((lt31 ((sd * 1664525) + 1013904223)) / 256) % 40) + 1 = r from hr.symm)) ?_
        have hr1 : 1 ≤ r ∧ r ≤ 40 := by omega
        refine lv_istore (lv' := [(8, .int (nI r)), (6, .int ((sd * 1664525) + 1013904223)), (0, .ref x0), (1, .int (nI k)), (2, .int y), (3, .long (lfM W)), (5, .int am_), (7, .int (nI i))]) hx hb dX4_lots_103 hl (by decide) rfl (fun ls hl => ?_)
        refine lv_lload_n hx hb dX4_lots_105 rfl (lv_at hl 5 rfl) ?_
        refine lv_iload hx hb dX4_lots_106 (lv_at hl 0 rfl) ?_
        refine cSI (As := [.long (lfM W), .int (nI r)]) (rest := []) F (c_X4_holds l g (lfM W) r (by omega)) kX4_holds gX4_lots_X4_holds rfl rfl ⟨Nat.le_of_ble_eq_true rfl, Nat.le_of_ble_eq_true rfl⟩ hP hD hS [] [0, 1, 2, 3, 4, 5, 6, 7, 8, 9, 10] rfl rfl hl.1 rfl rfl (Nat.le_of_ble_eq_true rfl) dX4_lots_108 ⟨Nat.le_of_ble_eq_true rfl, Nat.le_of_ble_eq_true rfl⟩ (fun rz w1 H locs hpo hP hD hS => ?_)
        obtain ⟨rfl, rfl⟩ := hpo
        obtain ⟨hP, hD⟩ := nx (ws' := [(x0, .inr (4, [.ref h0, .ref d0, .ref k0, .int (nI ik), .ref b0, .ref a0, .ref t0, .ref r0, .int (nI rn), .ref r1])), (h0, .inr (0, [.ref h1, .ref h2, .int (nI sk), .int (nI ek), .int (nI tr)])), (h1, .inl (eI g, 41, .inl (fun j => nI (W j)))), (h2, .inl (eI g, 5, .inl (fun j => nI (B j)))), (a0, .inr (2, [.ref a1, .ref a2, .ref a3, .int (nI (sk * 369)), .ref a5])), (a1, .inl (eJ g, 1476, .inr (.inl T9_2))), (a2, .inl (eI g, 4, .inl (fun j => nI (Lb9_2 j)))), (a3, .inr (1, [.ref a4, .int (nI n9_2)])), (a4, .inl (eI g, 7, .inl (fun j => nI (q9_2 j)))), (a5, .inl (eI g, 41, .inl (noteF E (lpB W) (enS (tlT B sk ek) 12 (lpB W) 0) 40))), (r1, .inl (eI g, 7, .inl rf))]) hP hD [0, 1, 2, 3, 4, 5, 6, 7, 8, 9, 10] (ndB_ok _ rfl) rfl
        refine bqne (tgt := 117) hx hb dX4_lots_111 (by decide) (fun c111 => ?_) (fun c111 => ?_)
        · skip
          have hlp : lpB W r = true := by rw [← bitL_lfM]; exact c111
          refine lv_iload hx hb dX4_lots_117 (lv_at hl 6 rfl) ?_
          refine lv_aload_n hx hb dX4_lots_119 rfl (lv_at hl 2 rfl) ?_
          refine xget F hP inX4_lots_X4 0 rfl rfl 5 (by decide) lkX4_lots_2 rfl dX4_lots_120 ?_
          refine xget F hP inX4_lots_X2 4 rfl rfl 4 (by decide) lkX4_lots_7 rfl dX4_lots_123 ?_
          refine lv_iload hx hb dX4_lots_126 (lv_at hl 0 rfl) ?_
          refine xald F hP 9 (v := ((noteF E (lpB W) (enS (tlT B sk ek) 12 (lpB W) 0) 40) r)) rfl (by omega) (by omega) rfl dX4_lots_128 ?_
          refine sti (show ((noteF E (lpB W) (enS (tlT B sk ek) 12 (lpB W) 0) 40) r) = ((enS (tlT B sk ek) 12 (lpB W) 0) r) from note_at hr1.1 hr1.2 hlp) ?_
          refine lv_bipush (v := (-9)) hx hb dX4_lots_129 (by decide) ?_
          refine lv_icmp_ne (tgt := 139) hx hb dX4_lots_131 (by decide) (fun c131 => ?_) (fun c131 => ?_)
          · skip
            refine lv_aload_n hx hb dX4_lots_139 rfl (lv_at hl 2 rfl) ?_
            refine xget F hP inX4_lots_X4 0 rfl rfl 5 (by decide) lkX4_lots_2 rfl dX4_lots_140 ?_
            refine xget F hP inX4_lots_X2 4 rfl rfl 4 (by decide) lkX4_lots_7 rfl dX4_lots_143 ?_
            refine lv_iload hx hb dX4_lots_146 (lv_at hl 0 rfl) ?_
            refine xald F hP 9 (v := ((noteF E (lpB W) (enS (tlT B sk ek) 12 (lpB W) 0) 40) r)) rfl (by omega) (by omega) rfl dX4_lots_148 ?_
            refine sti (show ((noteF E (lpB W) (enS (tlT B sk ek) 12 (lpB W) 0) 40) r) = ((enS (tlT B sk ek) 12 (lpB W) 0) r) from note_at hr1.1 hr1.2 hlp) ?_
            refine lv_iadd hx hb dX4_lots_149 ?_
            refine lv_istore (lv' := [(5, .int (am_ + ((enS (tlT B sk ek) 12 (lpB W) 0) r))), (8, .int (nI r)), (6, .int ((sd * 1664525) + 1013904223)), (0, .ref x0), (1, .int (nI k)), (2, .int y), (3, .long (lfM W)), (7, .int (nI i))]) hx hb dX4_lots_150 hl (by decide) rfl (fun ls hl => ?_)
            refine lv_iinc (v := (nI (i + 1))) (lv' := [(7, .int (nI (i + 1))), (5, .int (am_ + ((enS (tlT B sk ek) 12 (lpB W) 0) r))), (8, .int (nI r)), (6, .int ((sd * 1664525) + 1013904223)), (0, .ref x0), (1, .int (nI k)), (2, .int y), (3, .long (lfM W))]) hx hb dX4_lots_152 hl (k := 7) rfl (iincP i 1) (by decide) rfl (fun ls hl => ?_)
            refine lv_goto (tgt := 73) hx hb dX4_lots_155 (by decide) ?_
            exact ih73 (i + 1, ((sd * 1664525) + 1013904223), (am_ + ((enS (tlT B sk ek) 12 (lpB W) 0) r))) (show ((sd * 1664525) + 1013904223) = sdI y (i + 1) ∧ (am_ + ((enS (tlT B sk ek) 12 (lpB W) 0) r)) = ltS (lotF (lpB W) (enS (tlT B sk ek) 12 (lpB W) 0)) y (i + 1) ∧ (i + 1) ≤ k from (⟨by rw [hsd]; rfl, ltS_on ha (by rw [hsd]; rfl) hr ((if_pos hlp).trans (if_neg c131)), by omega⟩)) (show k - (i + 1) < k - i from (by omega)) _ _ _ hP hD hS (lv_sub hl [4, 5, 6, 7, 1, 3, 0] rfl)
          · skip
            refine lv_bipush (v := (nI 12)) hx hb dX4_lots_134 (by decide) ?_
            refine lv_goto (tgt := 149) hx hb dX4_lots_136 (by decide) ?_
            refine lv_iadd hx hb dX4_lots_149 ?_
            refine lv_istore (lv' := [(5, .int (am_ + (nI 12))), (8, .int (nI r)), (6, .int ((sd * 1664525) + 1013904223)), (0, .ref x0), (1, .int (nI k)), (2, .int y), (3, .long (lfM W)), (7, .int (nI i))]) hx hb dX4_lots_150 hl (by decide) rfl (fun ls hl => ?_)
            refine lv_iinc (v := (nI (i + 1))) (lv' := [(7, .int (nI (i + 1))), (5, .int (am_ + (nI 12))), (8, .int (nI r)), (6, .int ((sd * 1664525) + 1013904223)), (0, .ref x0), (1, .int (nI k)), (2, .int y), (3, .long (lfM W))]) hx hb dX4_lots_152 hl (k := 7) rfl (iincP i 1) (by decide) rfl (fun ls hl => ?_)
            refine lv_goto (tgt := 73) hx hb dX4_lots_155 (by decide) ?_
            exact ih73 (i + 1, ((sd * 1664525) + 1013904223), (am_ + (nI 12))) (show ((sd * 1664525) + 1013904223) = sdI y (i + 1) ∧ (am_ + (nI 12)) = ltS (lotF (lpB W) (enS (tlT B sk ek) 12 (lpB W) 0)) y (i + 1) ∧ (i + 1) ≤ k from (⟨by rw [hsd]; rfl, ltS_on ha (by rw [hsd]; rfl) hr ((if_pos hlp).trans (if_pos c131)), by omega⟩)) (show k - (i + 1) < k - i from (by omega)) _ _ _ hP hD hS (lv_sub hl [4, 5, 6, 7, 1, 3, 0] rfl)
        · skip
          refine lv_goto (tgt := 152) hx hb dX4_lots_114 (by decide) ?_
          refine lv_iinc (v := (nI (i + 1))) (lv' := [(7, .int (nI (i + 1))), (8, .int (nI r)), (6, .int ((sd * 1664525) + 1013904223)), (0, .ref x0), (1, .int (nI k)), (2, .int y), (3, .long (lfM W)), (5, .int am_)]) hx hb dX4_lots_152 hl (k := 7) rfl (iincP i 1) (by decide) rfl (fun ls hl => ?_)
          refine lv_goto (tgt := 73) hx hb dX4_lots_155 (by decide) ?_
          exact ih73 (i + 1, ((sd * 1664525) + 1013904223), am_) (show ((sd * 1664525) + 1013904223) = sdI y (i + 1) ∧ am_ = ltS (lotF (lpB W) (enS (tlT B sk ek) 12 (lpB W) 0)) y (i + 1) ∧ (i + 1) ≤ k from (⟨by rw [hsd]; rfl, (add_nI0 am_).symm.trans (ltS_on ha (by rw [hsd]; rfl) hr (if_neg (by have := c111; rw [bitL_lfM] at this; exact this))), by omega⟩)) (show k - (i + 1) < k - i from (by omega)) _ _ _ hP hD hS (lv_sub hl [3, 4, 5, 6, 7, 2, 0] rfl)
    · skip
      refine lv_aload_n hx hb dX4_lots_18 rfl (lv_at hl 0 rfl) ?_
      refine lv_bipush (v := (-6)) hx hb dX4_lots_19 (by decide) ?_
      refine cVI (As := [.int (-6)]) (rest := []) F (c_X4_refuse l g x0 h0 d0 k0 b0 a0 t0 r0 r1 ik rn rf (-6) 6 (by decide) (by omega) (by omega)) kX4_refuse rfl gX4_lots_X4_refuse rfl rfl ⟨Nat.le_of_ble_eq_true rfl, Nat.le_of_ble_eq_true rfl⟩ hP hD hS [0, 10] [1, 2, 3, 4, 5, 6, 7, 8, 9] rfl rfl 0 rfl rfl hl.1 rfl rfl (Nat.le_of_ble_eq_true rfl) dX4_lots_21 ⟨Nat.le_of_ble_eq_true rfl, Nat.le_of_ble_eq_true rfl⟩ (fun rz w1 H locs hpo hP hD hS => ?_)
      obtain ⟨rfl, rfl⟩ := hpo
      obtain ⟨hP, hD⟩ := nx (ws' := [(x0, .inr (4, [.ref h0, .ref d0, .ref k0, .int (nI ik), .ref b0, .ref a0, .ref t0, .ref r0, .int (nI rn), .ref r1])), (h0, .inr (0, [.ref h1, .ref h2, .int (nI sk), .int (nI ek), .int (nI tr)])), (h1, .inl (eI g, 41, .inl (fun j => nI (W j)))), (h2, .inl (eI g, 5, .inl (fun j => nI (B j)))), (a0, .inr (2, [.ref a1, .ref a2, .ref a3, .int (nI ka), .ref a5])), (a1, .inl (eJ g, 1476, .inr (.inl T))), (a2, .inl (eI g, 4, .inl (fun j => nI (Lb j)))), (a3, .inr (1, [.ref a4, .int (nI n2)])), (a4, .inl (eI g, 7, .inl (fun j => nI (q2 j)))), (a5, .inl (eI g, 41, .inl E)), (r1, .inl (eI g, 7, .inl (bump rf 6)))]) hP hD [9, 0, 1, 2, 3, 4, 5, 6, 7, 8, 10] (ndB_ok _ rfl) rfl
      exact rtI F hP hD hS dX4_lots_24 (by rw [show (if x.toInt < 1 then 4 else if 20 < x.toInt then 6 else 0) = 6 from (by first | (exfalso; omega) | ((try simp only [true_and, and_true]); (repeat (first | rw [if_pos (by omega)] | rw [if_neg (by omega)])) <;> rfl))]; first | done | exact ⟨T, ka, Lb, q2, n2, E, by rfl, by rfl, hC⟩)
  · skip
    refine lv_aload_n hx hb dX4_lots_5 rfl (lv_at hl 0 rfl) ?_
    refine lv_bipush (v := (-4)) hx hb dX4_lots_6 (by decide) ?_
    refine cVI (As := [.int (-4)]) (rest := []) F (c_X4_refuse l g x0 h0 d0 k0 b0 a0 t0 r0 r1 ik rn rf (-4) 4 (by decide) (by omega) (by omega)) kX4_refuse rfl gX4_lots_X4_refuse rfl rfl ⟨Nat.le_of_ble_eq_true rfl, Nat.le_of_ble_eq_true rfl⟩ hP hD hS [0, 10] [1, 2, 3, 4, 5, 6, 7, 8, 9] rfl rfl 0 rfl rfl hl.1 rfl rfl (Nat.le_of_ble_eq_true rfl) dX4_lots_8 ⟨Nat.le_of_ble_eq_true rfl, Nat.le_of_ble_eq_true rfl⟩ (fun rz w1 H locs hpo hP hD hS => ?_)
    obtain ⟨rfl, rfl⟩ := hpo
    obtain ⟨hP, hD⟩ := nx (ws' := [(x0, .inr (4, [.ref h0, .ref d0, .ref k0, .int (nI ik), .ref b0, .ref a0, .ref t0, .ref r0, .int (nI rn), .ref r1])), (h0, .inr (0, [.ref h1, .ref h2, .int (nI sk), .int (nI ek), .int (nI tr)])), (h1, .inl (eI g, 41, .inl (fun j => nI (W j)))), (h2, .inl (eI g, 5, .inl (fun j => nI (B j)))), (a0, .inr (2, [.ref a1, .ref a2, .ref a3, .int (nI ka), .ref a5])), (a1, .inl (eJ g, 1476, .inr (.inl T))), (a2, .inl (eI g, 4, .inl (fun j => nI (Lb j)))), (a3, .inr (1, [.ref a4, .int (nI n2)])), (a4, .inl (eI g, 7, .inl (fun j => nI (q2 j)))), (a5, .inl (eI g, 41, .inl E)), (r1, .inl (eI g, 7, .inl (bump rf 4)))]) hP hD [9, 0, 1, 2, 3, 4, 5, 6, 7, 8, 10] (ndB_ok _ rfl) rfl
    exact rtI F hP hD hS dX4_lots_11 (by rw [show (if x.toInt < 1 then 4 else if 20 < x.toInt then 6 else 0) = 4 from (by first | (exfalso; omega) | ((try simp only [true_and, and_true]); (repeat (first | rw [if_pos (by omega)] | rw [if_neg (by omega)])) <;> rfl))]; first | done | exact ⟨T, ka, Lb, q2, n2, E, by rfl, by rfl, hC⟩)

theorem lkX5_lots_1 : Cond.constant RX5 180 (1664525) ∈ wsX5_lots := List.mem_of_getElem? (i := 1) rfl
theorem lkX5_lots_2 : Cond.constant RX5 181 (1013904223) ∈ wsX5_lots := List.mem_of_getElem? (i := 2) rfl
theorem lkX5_lots_3 : Cond.constant RX5 182 (2147483647) ∈ wsX5_lots := List.mem_of_getElem? (i := 3) rfl
theorem inX5_lots_X5 : ∀ w ∈ u_ws RX5 TX5 20, w ∈ wsX5_lots := fun _ h => (List.mem_cons_of_mem _ (List.mem_append_right _ h))
theorem lkX5_lots_4 : Cond.fieldLink RX5 19 "StripInFiveStepsModel" "now" "[I" ∈ wsX5_lots := List.mem_of_getElem? (i := 4) rfl
theorem kX5_lots : Cal yX5_lots wsX5_lots cX5_lots 8 (some .int) 2 := ⟨⟨_, rfl⟩, by decide +kernel⟩
set_option maxHeartbeats 1000000 in
set_option maxRecDepth 100000 in
theorem c_X5_lots (l : Launch) (g : EE) (m0 : Nat) (m1 : Nat) (m2 : Nat) (m3 : Nat) (m4 : Nat) (m5 : Nat) (m6 : Nat) (m7 : Nat) (m8 : Nat) (m9 : Nat) (m10 : Nat) (m11 : Nat) (m12 : Nat) (m13 : Nat) (m14 : Nat) (kp : Nat) (rn : Nat) (tn : Nat) (ia : Nat) (wl : Nat) (si : Nat) (S : Nat → Nat) (O : Nat → Int32) (Y : Nat → Nat) (Z : Nat → Nat) (M : Nat → Nat) (rf : Nat → Int32) (x : Int32) (y : Int32) (hO : okS S) : CI l yX5_lots wsX5_lots ({ frames := 9, cells := 0, slots := 0, locals := 209 }) g [.ref m0, .int x, .int y] [(m0, .inr (5, [.ref m1, .ref m2, .ref m3, .int (nI kp), .ref m4, .ref m5, .ref m6, .ref m7, .ref m8, .int (nI rn), .ref m9, .int (nI tn), .int (nI ia), .int (nI wl), .ref m10, .ref m11, .ref m12, .int (nI si), .ref m13, .ref m14])), (m2, .inl (eI g, 49, .inl (fun j => nI (S j)))), (m4, .inl (eI g, 41, .inl O)), (m5, .inl (eI g, 9, .inl (fun j => nI (Y j)))), (m6, .inl (eI g, 9, .inl (fun j => nI (Z j)))), (m7, .inl (eI g, 49, .inl (fun j => nI (M j)))), (m1, .inl (eI g, 7, .inl rf))] (fun (rz : Int32) (wz : va_W) => ∃ O9 : Nat → Int32, ∃ Y9 : Nat → Nat, ∃ Z9 : Nat → Nat, ∃ M9 : Nat → Nat, rz = (rsp (if x.toInt < 1 then 4 else if 20 < x.toInt then 6 else 0) (ltS (lotF (lpB S) (enS (tlS S) 12 (lpB S) 0)) y x.toNatClampNeg)) ∧ wz = [(m0, .inr (5, [.ref m1, .ref m2, .ref m3, .int (nI kp), .ref m4, .ref m5, .ref m6, .ref m7, .ref m8, .int (nI rn), .ref m9, .int (nI tn), .int (nI ia), .int (nI wl), .ref m10, .ref m11, .ref m12, .int (nI si), .ref m13, .ref m14])), (m2, .inl (eI g, 49, .inl (fun j => nI (S j)))), (m4, .inl (eI g, 41, .inl O9)), (m5, .inl (eI g, 9, .inl (fun j => nI (Y9 j)))), (m6, .inl (eI g, 9, .inl (fun j => nI (Z9 j)))), (m7, .inl (eI g, 49, .inl (fun j => nI (M9 j)))), (m1, .inl (eI g, 7, .inl (bump rf (if x.toInt < 1 then 4 else if 20 < x.toInt then 6 else 0))))]) 0 0 := by
  refine ctI (cc := cX5_lots) (maxL := 8) (ret := (some .int)) (by decide) rfl (Nat.le_of_ble_eq_true rfl) ?_
  intro p_ e_ s_ m_ bl_ mt_ cd_ A ls F hnm hP hD hS hl
  obtain ⟨hx, hb, hml, hown, hts, hK, hX, hA, hrt_, hlocks⟩ := id F
  have hl : lv_has ls 8 [(0, .ref m0), (1, .int x), (2, .int y)] := hl
  obtain ⟨hw40, ⟨h41a, h41b⟩, ⟨h42a, h42b⟩, h43, h44, h45, h46, h47, h48⟩ := id hO
  refine lv_iload_n hx hb dX5_lots_0 rfl (lv_at hl 1 rfl) ?_
  refine lv_iconst (v := (nI 1)) hx hb dX5_lots_1 (by decide) ?_
  refine yge (tgt := 12) hx hb dX5_lots_2 (by decide) (by omega) (fun c2 => ?_) (fun c2 => ?_)
  · skip
    refine lv_iload_n hx hb dX5_lots_12 rfl (lv_at hl 1 rfl) ?_
    refine lv_bipush (v := (nI 20)) hx hb dX5_lots_13 (by decide) ?_
    refine yle (tgt := 25) hx hb dX5_lots_15 (by decide) (by omega) (fun c15 => ?_) (fun c15 => ?_)
    · skip
      obtain ⟨k, hk_, rfl⟩ := natOf (x := x) (by omega)
      rw [nI_tI hk_] at c2
      rw [nI_tI hk_] at c15
      refine lv_iload_n hx hb dX5_lots_25 rfl (lv_at hl 2 rfl) ?_
      refine lv_istore_n (lv' := [(3, .int y), (0, .ref m0), (1, .int (nI k)), (2, .int y)]) hx hb dX5_lots_26 rfl hl (by decide) rfl (fun ls hl => ?_)
      refine lv_iconst (v := (nI 0)) hx hb dX5_lots_27 (by decide) ?_
      refine lv_istore (lv' := [(4, .int (nI 0)), (3, .int y), (0, .ref m0), (1, .int (nI k)), (2, .int y)]) hx hb dX5_lots_28 hl (by decide) rfl (fun ls hl => ?_)
      refine lv_iconst (v := (nI 0)) hx hb dX5_lots_30 (by decide) ?_
      refine lv_istore (lv' := [(5, .int (nI 0)), (4, .int (nI 0)), (3, .int y), (0, .ref m0), (1, .int (nI k)), (2, .int y)]) hx hb dX5_lots_31 hl (by decide) rfl (fun ls hl => ?_)
      refine xlo (σ := Nat × Int32 × Int32 × (Nat → Int32) × (Nat → Nat) × (Nat → Nat) × (Nat → Nat)) 8 (fun xz_ => (fun (i : Nat) (sd : Int32) (am_ : Int32) (o : Nat → Int32) (y2 : Nat → Nat) (z2 : Nat → Nat) (m_ : Nat → Nat) => [(0, .ref m0), (1, .int (nI k)), (2, .int y), (3, .int sd), (4, .int am_), (5, .int (nI i))]) xz_.1 xz_.2.1 xz_.2.2.1 xz_.2.2.2.1 xz_.2.2.2.2.1 xz_.2.2.2.2.2.1 xz_.2.2.2.2.2.2) (fun xz_ => (fun (i : Nat) (sd : Int32) (am_ : Int32) (o : Nat → Int32) (y2 : Nat → Nat) (z2 : Nat → Nat) (m_ : Nat → Nat) => [(m0, .inr (5, [.ref m1, .ref m2, .ref m3, .int (nI kp), .ref m4, .ref m5, .ref m6, .ref m7, .ref m8, .int (nI rn), .ref m9, .int (nI tn), .int (nI ia), .int (nI wl), .ref m10, .ref m11, .ref m12, .int (nI si), .ref m13, .ref m14])), (m2, .inl (eI g, 49, .inl (fun j => nI (S j)))), (m4, .inl (eI g, 41, .inl o)), (m5, .inl (eI g, 9, .inl (fun j => nI (y2 j)))), (m6, .inl (eI g, 9, .inl (fun j => nI (z2 j)))), (m7, .inl (eI g, 49, .inl (fun j => nI (m_ j)))), (m1, .inl (eI g, 7, .inl rf))]) xz_.1 xz_.2.1 xz_.2.2.1 xz_.2.2.2.1 xz_.2.2.2.2.1 xz_.2.2.2.2.2.1 xz_.2.2.2.2.2.2) (fun xz_ => (fun (i : Nat) (sd : Int32) (am_ : Int32) (o : Nat → Int32) (y2 : Nat → Nat) (z2 : Nat → Nat) (m_ : Nat → Nat) => sd = sdI y i ∧ am_ = ltS (lotF (lpB S) (enS (tlS S) 12 (lpB S) 0)) y i ∧ i ≤ k) xz_.1 xz_.2.1 xz_.2.2.1 xz_.2.2.2.1 xz_.2.2.2.2.1 xz_.2.2.2.2.2.1 xz_.2.2.2.2.2.2) (fun xz_ => (fun (i : Nat) (sd : Int32) (am_ : Int32) (o : Nat → Int32) (y2 : Nat → Nat) (z2 : Nat → Nat) (m_ : Nat → Nat) => k - i) xz_.1 xz_.2.1 xz_.2.2.1 xz_.2.2.2.1 xz_.2.2.2.2.1 xz_.2.2.2.2.2.1 xz_.2.2.2.2.2.2) (fun xz_ hI ih33 H locs ls hP hD hS hl => ?_) (0, y, (nI 0), O, Y, Z, M) (show y = sdI y 0 ∧ (nI 0) = ltS (lotF (lpB S) (enS (tlS S) 12 (lpB S) 0)) y 0 ∧ 0 ≤ k from (⟨rfl, rfl, by omega⟩)) hP hD hS (lv_sub hl [3, 4, 5, 2, 1, 0] rfl)
      obtain ⟨i, sd, am_, o, y2, z2, m_⟩ := xz_
      have hP : va_P (eD g) vwCl [(m0, .inr (5, [.ref m1, .ref m2, .ref m3, .int (nI kp), .ref m4, .ref m5, .ref m6, .ref m7, .ref m8, .int (nI rn), .ref m9, .int (nI tn), .int (nI ia), .int (nI wl), .ref m10, .ref m11, .ref m12, .int (nI si), .ref m13, .ref m14])), (m2, .inl (eI g, 49, .inl (fun j => nI (S j)))), (m4, .inl (eI g, 41, .inl o)), (m5, .inl (eI g, 9, .inl (fun j => nI (y2 j)))), (m6, .inl (eI g, 9, .inl (fun j => nI (z2 j)))), (m7, .inl (eI g, 49, .inl (fun j => nI (m_ j)))), (m1, .inl (eI g, 7, .inl rf))] H := hP
      have hD : va_D A [(m0, .inr (5, [.ref m1, .ref m2, .ref m3, .int (nI kp), .ref m4, .ref m5, .ref m6, .ref m7, .ref m8, .int (nI rn), .ref m9, .int (nI tn), .int (nI ia), .int (nI wl), .ref m10, .ref m11, .ref m12, .int (nI si), .ref m13, .ref m14])), (m2, .inl (eI g, 49, .inl (fun j => nI (S j)))), (m4, .inl (eI g, 41, .inl o)), (m5, .inl (eI g, 9, .inl (fun j => nI (y2 j)))), (m6, .inl (eI g, 9, .inl (fun j => nI (z2 j)))), (m7, .inl (eI g, 49, .inl (fun j => nI (m_ j)))), (m1, .inl (eI g, 7, .inl rf))] := hD
      have hl : lv_has ls 8 [(0, .ref m0), (1, .int (nI k)), (2, .int y), (3, .int sd), (4, .int am_), (5, .int (nI i))] := hl
      have hI33 : sd = sdI y i ∧ am_ = ltS (lotF (lpB S) (enS (tlS S) 12 (lpB S) 0)) y i ∧ i ≤ k := hI
      clear hI
      obtain ⟨hsd, ha, hi2⟩ := id hI33
      refine lv_iload hx hb dX5_lots_33 (lv_at hl 5 rfl) ?_
      refine lv_iload_n hx hb dX5_lots_35 rfl (lv_at hl 1 rfl) ?_
      refine xge (tgt := 109) hx hb dX5_lots_36 (by decide) (by omega) (by omega) (fun c36 => ?_) (fun c36 => ?_)
      · skip
        refine lv_iload hx hb dX5_lots_109 (lv_at hl 4 rfl) ?_
        exact rtI F hP hD hS dX5_lots_111 (by rw [show (if (nI k).toInt < 1 then 4 else if 20 < (nI k).toInt then 6 else 0) = 0 from (by rw [nI_tI hk_, if_neg (by omega), if_neg (by omega)]), nI_clamp hk_]; exact ⟨_, _, _, _, by rw [rsp_0, ha, show i = k by omega], rfl⟩)
      · skip
        refine lv_iload_n hx hb dX5_lots_39 rfl (lv_at hl 3 rfl) ?_
        refine lv_ldc (v := 1664525) hx hb hown (F.lk lkX5_lots_1) dX5_lots_40 ?_
        refine lv_imul hx hb dX5_lots_42 ?_
        refine lv_ldc (v := 1013904223) hx hb hown (F.lk lkX5_lots_2) dX5_lots_43 ?_
        refine lv_iadd hx hb dX5_lots_45 ?_
        refine lv_istore_n (lv' := [(3, .int ((sd * 1664525) + 1013904223)), (0, .ref m0), (1, .int (nI k)), (2, .int y), (4, .int am_), (5, .int (nI i))]) hx hb dX5_lots_46 rfl hl (by decide) rfl (fun ls hl => ?_)
        refine lv_iload_n hx hb dX5_lots_47 rfl (lv_at hl 0 rfl) ?_
        refine lv_ldc (v := 2147483647) hx hb hown (F.lk lkX5_lots_3) dX5_lots_48 ?_
        refine lv_iand hx hb dX5_lots_50 ?_
        obtain ⟨hle_, hlb_⟩ := lt31_ok ((sd * 1664525) + 1013904223)
        refine sti (show (((sd * 1664525) + 1013904223) &&& 2147483647) = nI (lt31 ((sd * 1664525) + 1013904223)) from hle_) ?_
        refine lv_sipush (v := (nI 256)) hx hb dX5_lots_51 (by decide) ?_
        refine xdiv hx hb (by omega) (by omega) (by omega) dX5_lots_54 ?_
        refine lv_bipush (v := (nI 40)) hx hb dX5_lots_55 (by decide) ?_
        refine xrem hx hb (by omega) (by omega) (by omega) dX5_lots_57 ?_
        refine lv_iconst (v := (nI 1)) hx hb dX5_lots_58 (by decide) ?_
        refine xadd hx hb dX5_lots_59 ?_
        obtain ⟨r, hr⟩ : ∃ r, r = lt31 ((sd * 1664525) + 1013904223) / 256 % 40 + 1 := ⟨_, rfl⟩
        refine sti (congrArg nI (show (((lt31 ((sd * 1664525) + 1013904223)) / 256) % 40) + 1 = r from hr.symm)) ?_
        have hr1 : 1 ≤ r ∧ r ≤ 40 := by omega
        refine lv_istore (lv' := [(6, .int (nI r)), (3, .int ((sd * 1664525) + 1013904223)), (0, .ref m0), (1, .int (nI k)), (2, .int y), (4, .int am_), (5, .int (nI i))]) hx hb dX5_lots_60 hl (by decide) rfl (fun ls hl => ?_)
        refine lv_aload_n hx hb dX5_lots_62 rfl (lv_at hl 2 rfl) ?_
        refine xget F hP inX5_lots_X5 0 rfl rfl 1 (by decide) lkX5_lots_4 rfl dX5_lots_63 ?_
        refine lv_iload hx hb dX5_lots_66 (lv_at hl 0 rfl) ?_
        refine xald F hP 1 (v := (nI (S r))) rfl (by omega) (by omega) rfl dX5_lots_68 ?_
        have hbd1 := hO.1 (r) (by omega)
        refine zne (tgt := 76) hx hb dX5_lots_69 (by decide) (by omega) (fun c69 => ?_) (fun c69 => ?_)
        · skip
          have hlp : lpB S r = true := lp_on hr1.1 hr1.2 c69
          refine lv_aload_n hx hb dX5_lots_76 rfl (lv_at hl 2 rfl) ?_
          refine lv_iload hx hb dX5_lots_77 (lv_at hl 0 rfl) ?_
          refine cVI (As := [.int (nI r)]) (rest := []) F (c_X5_enoughFor l g m0 m1 m2 m3 m4 m5 m6 m7 m8 m9 m10 m11 m12 m13 m14 kp rn tn ia wl si S o y2 z2 m_ r (hO) (hr1.1) (hr1.2) (hlp)) kX5_enoughFor rfl gX5_lots_X5_enoughFor rfl rfl ⟨Nat.le_of_ble_eq_true rfl, Nat.le_of_ble_eq_true rfl⟩ hP hD hS [0, 1, 2, 3, 4, 5] [6] rfl rfl 0 rfl rfl hl.1 rfl rfl (Nat.le_of_ble_eq_true rfl) dX5_lots_79 ⟨Nat.le_of_ble_eq_true rfl, Nat.le_of_ble_eq_true rfl⟩ (fun rz w1 H locs hpo hP hD hS => ?_)
          obtain ⟨O9_2, Y9_2, Z9_2, M9_2, rfl, rfl⟩ := hpo
          obtain ⟨hP, hD⟩ := nx (ws' := [(m0, .inr (5, [.ref m1, .ref m2, .ref m3, .int (nI kp), .ref m4, .ref m5, .ref m6, .ref m7, .ref m8, .int (nI rn), .ref m9, .int (nI tn), .int (nI ia), .int (nI wl), .ref m10, .ref m11, .ref m12, .int (nI si), .ref m13, .ref m14])), (m2, .inl (eI g, 49, .inl (fun j => nI (S j)))), (m4, .inl (eI g, 41, .inl O9_2)), (m5, .inl (eI g, 9, .inl (fun j => nI (Y9_2 j)))), (m6, .inl (eI g, 9, .inl (fun j => nI (Z9_2 j)))), (m7, .inl (eI g, 49, .inl (fun j => nI (M9_2 j)))), (m1, .inl (eI g, 7, .inl rf))]) hP hD [1, 2, 3, 4, 5, 6, 0] (ndB_ok _ rfl) rfl
          refine lv_istore (lv' := [(7, .int (enS (tlS S) 12 (lpB S) 0 r)), (6, .int (nI r)), (3, .int ((sd * 1664525) + 1013904223)), (0, .ref m0), (1, .int (nI k)), (2, .int y), (4, .int am_), (5, .int (nI i))]) hx hb dX5_lots_82 hl (by decide) rfl (fun ls hl => ?_)
          refine lv_iload hx hb dX5_lots_84 (lv_at hl 6 rfl) ?_
          refine lv_iload hx hb dX5_lots_86 (lv_at hl 0 rfl) ?_
          refine lv_bipush (v := (-9)) hx hb dX5_lots_88 (by decide) ?_
          refine lv_icmp_ne (tgt := 98) hx hb dX5_lots_90 (by decide) (fun c90 => ?_) (fun c90 => ?_)
          · skip
            refine lv_iload hx hb dX5_lots_98 (lv_at hl 0 rfl) ?_
            refine lv_iadd hx hb dX5_lots_100 ?_
            refine lv_istore (lv' := [(4, .int (am_ + (enS (tlS S) 12 (lpB S) 0 r))), (7, .int (enS (tlS S) 12 (lpB S) 0 r)), (6, .int (nI r)), (3, .int ((sd * 1664525) + 1013904223)), (0, .ref m0), (1, .int (nI k)), (2, .int y), (5, .int (nI i))]) hx hb dX5_lots_101 hl (by decide) rfl (fun ls hl => ?_)
            refine lv_iinc (v := (nI (i + 1))) (lv' := [(5, .int (nI (i + 1))), (4, .int (am_ + (enS (tlS S) 12 (lpB S) 0 r))), (7, .int (enS (tlS S) 12 (lpB S) 0 r)), (6, .int (nI r)), (3, .int ((sd * 1664525) + 1013904223)), (0, .ref m0), (1, .int (nI k)), (2, .int y)]) hx hb dX5_lots_103 hl (k := 7) rfl (iincP i 1) (by decide) rfl (fun ls hl => ?_)
            refine lv_goto (tgt := 33) hx hb dX5_lots_106 (by decide) ?_
            exact ih33 (i + 1, ((sd * 1664525) + 1013904223), (am_ + (enS (tlS S) 12 (lpB S) 0 r)), O9_2, Y9_2, Z9_2, M9_2) (show ((sd * 1664525) + 1013904223) = sdI y (i + 1) ∧ (am_ + (enS (tlS S) 12 (lpB S) 0 r)) = ltS (lotF (lpB S) (enS (tlS S) 12 (lpB S) 0)) y (i + 1) ∧ (i + 1) ≤ k from (⟨by rw [hsd]; rfl, ltS_on ha (by rw [hsd]; rfl) hr ((if_pos hlp).trans (if_neg c90)), by omega⟩)) (show k - (i + 1) < k - i from (by omega)) _ _ _ hP hD hS (lv_sub hl [5, 6, 7, 4, 1, 0] rfl)
          · skip
            refine lv_bipush (v := (nI 12)) hx hb dX5_lots_93 (by decide) ?_
            refine lv_goto (tgt := 100) hx hb dX5_lots_95 (by decide) ?_
            refine lv_iadd hx hb dX5_lots_100 ?_
            refine lv_istore (lv' := [(4, .int (am_ + (nI 12))), (7, .int (enS (tlS S) 12 (lpB S) 0 r)), (6, .int (nI r)), (3, .int ((sd * 1664525) + 1013904223)), (0, .ref m0), (1, .int (nI k)), (2, .int y), (5, .int (nI i))]) hx hb dX5_lots_101 hl (by decide) rfl (fun ls hl => ?_)
            refine lv_iinc (v := (nI (i + 1))) (lv' := [(5, .int (nI (i + 1))), (4, .int (am_ + (nI 12))), (7, .int (enS (tlS S) 12 (lpB S) 0 r)), (6, .int (nI r)), (3, .int ((sd * 1664525) + 1013904223)), (0, .ref m0), (1, .int (nI k)), (2, .int y)]) hx hb dX5_lots_103 hl (k := 7) rfl (iincP i 1) (by decide) rfl (fun ls hl => ?_)
            refine lv_goto (tgt := 33) hx hb dX5_lots_106 (by decide) ?_
            exact ih33 (i + 1, ((sd * 1664525) + 1013904223), (am_ + (nI 12)), O9_2, Y9_2, Z9_2, M9_2) (show ((sd * 1664525) + 1013904223) = sdI y (i + 1) ∧ (am_ + (nI 12)) = ltS (lotF (lpB S) (enS (tlS S) 12 (lpB S) 0)) y (i + 1) ∧ (i + 1) ≤ k from (⟨by rw [hsd]; rfl, ltS_on ha (by rw [hsd]; rfl) hr ((if_pos hlp).trans (if_pos c90)), by omega⟩)) (show k - (i + 1) < k - i from (by omega)) _ _ _ hP hD hS (lv_sub hl [5, 6, 7, 4, 1, 0] rfl)
        · skip
          refine lv_iconst (v := (nI 0)) hx hb dX5_lots_72 (by decide) ?_
          refine lv_goto (tgt := 82) hx hb dX5_lots_73 (by decide) ?_
          refine lv_istore (lv' := [(7, .int (nI 0)), (6, .int (nI r)), (3, .int ((sd * 1664525) + 1013904223)), (0, .ref m0), (1, .int (nI k)), (2, .int y), (4, .int am_), (5, .int (nI i))]) hx hb dX5_lots_82 hl (by decide) rfl (fun ls hl => ?_)
          refine lv_iload hx hb dX5_lots_84 (lv_at hl 6 rfl) ?_
          refine lv_iload hx hb dX5_lots_86 (lv_at hl 0 rfl) ?_
          refine lv_bipush (v := (-9)) hx hb dX5_lots_88 (by decide) ?_
          refine lv_icmp_ne (tgt := 98) hx hb dX5_lots_90 (by decide) (fun c => ?_) (fun c => absurd c (nI_neg9 (by omega)))
          refine lv_iload hx hb dX5_lots_98 (lv_at hl 0 rfl) ?_
          refine lv_iadd hx hb dX5_lots_100 ?_
          refine lv_istore (lv' := [(4, .int (am_ + (nI 0))), (7, .int (nI 0)), (6, .int (nI r)), (3, .int ((sd * 1664525) + 1013904223)), (0, .ref m0), (1, .int (nI k)), (2, .int y), (5, .int (nI i))]) hx hb dX5_lots_101 hl (by decide) rfl (fun ls hl => ?_)
          refine lv_iinc (v := (nI (i + 1))) (lv' := [(5, .int (nI (i + 1))), (4, .int (am_ + (nI 0))), (7, .int (nI 0)), (6, .int (nI r)), (3, .int ((sd * 1664525) + 1013904223)), (0, .ref m0), (1, .int (nI k)), (2, .int y)]) hx hb dX5_lots_103 hl (k := 7) rfl (iincP i 1) (by decide) rfl (fun ls hl => ?_)
          refine lv_goto (tgt := 33) hx hb dX5_lots_106 (by decide) ?_
          exact ih33 (i + 1, ((sd * 1664525) + 1013904223), (am_ + (nI 0)), o, y2, z2, m_) (show ((sd * 1664525) + 1013904223) = sdI y (i + 1) ∧ (am_ + (nI 0)) = ltS (lotF (lpB S) (enS (tlS S) 12 (lpB S) 0)) y (i + 1) ∧ (i + 1) ≤ k from (⟨by rw [hsd]; rfl, ltS_on ha (by rw [hsd]; rfl) hr (if_neg (by rw [lp_off c69]; decide)), by omega⟩)) (show k - (i + 1) < k - i from (by omega)) _ _ _ hP hD hS (lv_sub hl [5, 6, 7, 4, 1, 0] rfl)
    · skip
      refine lv_aload_n hx hb dX5_lots_18 rfl (lv_at hl 0 rfl) ?_
      refine lv_bipush (v := (-6)) hx hb dX5_lots_19 (by decide) ?_
      refine cVI (As := [.int (-6)]) (rest := []) F (c_X5_no l g m0 m1 m2 m3 m4 m5 m6 m7 m8 m9 m10 m11 m12 m13 m14 kp rn tn ia wl si rf (-6) 6 (by decide) (by omega) (by omega)) kX5_no rfl gX5_lots_X5_no rfl rfl ⟨Nat.le_of_ble_eq_true rfl, Nat.le_of_ble_eq_true rfl⟩ hP hD hS [0, 6] [1, 2, 3, 4, 5] rfl rfl 0 rfl rfl hl.1 rfl rfl (Nat.le_of_ble_eq_true rfl) dX5_lots_21 ⟨Nat.le_of_ble_eq_true rfl, Nat.le_of_ble_eq_true rfl⟩ (fun rz w1 H locs hpo hP hD hS => ?_)
      obtain ⟨rfl, rfl⟩ := hpo
      obtain ⟨hP, hD⟩ := nx (ws' := [(m0, .inr (5, [.ref m1, .ref m2, .ref m3, .int (nI kp), .ref m4, .ref m5, .ref m6, .ref m7, .ref m8, .int (nI rn), .ref m9, .int (nI tn), .int (nI ia), .int (nI wl), .ref m10, .ref m11, .ref m12, .int (nI si), .ref m13, .ref m14])), (m2, .inl (eI g, 49, .inl (fun j => nI (S j)))), (m4, .inl (eI g, 41, .inl O)), (m5, .inl (eI g, 9, .inl (fun j => nI (Y j)))), (m6, .inl (eI g, 9, .inl (fun j => nI (Z j)))), (m7, .inl (eI g, 49, .inl (fun j => nI (M j)))), (m1, .inl (eI g, 7, .inl (bump rf 6)))]) hP hD [5, 0, 1, 2, 3, 4, 6] (ndB_ok _ rfl) rfl
      exact rtI F hP hD hS dX5_lots_24 (by rw [show (if x.toInt < 1 then 4 else if 20 < x.toInt then 6 else 0) = 6 from (by first | (exfalso; omega) | ((try simp only [true_and, and_true]); (repeat (first | rw [if_pos (by omega)] | rw [if_neg (by omega)])) <;> rfl))]; first | done | exact ⟨_, _, _, _, by rfl, by rfl⟩)
  · skip
    refine lv_aload_n hx hb dX5_lots_5 rfl (lv_at hl 0 rfl) ?_
    refine lv_bipush (v := (-4)) hx hb dX5_lots_6 (by decide) ?_
    refine cVI (As := [.int (-4)]) (rest := []) F (c_X5_no l g m0 m1 m2 m3 m4 m5 m6 m7 m8 m9 m10 m11 m12 m13 m14 kp rn tn ia wl si rf (-4) 4 (by decide) (by omega) (by omega)) kX5_no rfl gX5_lots_X5_no rfl rfl ⟨Nat.le_of_ble_eq_true rfl, Nat.le_of_ble_eq_true rfl⟩ hP hD hS [0, 6] [1, 2, 3, 4, 5] rfl rfl 0 rfl rfl hl.1 rfl rfl (Nat.le_of_ble_eq_true rfl) dX5_lots_8 ⟨Nat.le_of_ble_eq_true rfl, Nat.le_of_ble_eq_true rfl⟩ (fun rz w1 H locs hpo hP hD hS => ?_)
    obtain ⟨rfl, rfl⟩ := hpo
    obtain ⟨hP, hD⟩ := nx (ws' := [(m0, .inr (5, [.ref m1, .ref m2, .ref m3, .int (nI kp), .ref m4, .ref m5, .ref m6, .ref m7, .ref m8, .int (nI rn), .ref m9, .int (nI tn), .int (nI ia), .int (nI wl), .ref m10, .ref m11, .ref m12, .int (nI si), .ref m13, .ref m14])), (m2, .inl (eI g, 49, .inl (fun j => nI (S j)))), (m4, .inl (eI g, 41, .inl O)), (m5, .inl (eI g, 9, .inl (fun j => nI (Y j)))), (m6, .inl (eI g, 9, .inl (fun j => nI (Z j)))), (m7, .inl (eI g, 49, .inl (fun j => nI (M j)))), (m1, .inl (eI g, 7, .inl (bump rf 4)))]) hP hD [5, 0, 1, 2, 3, 4, 6] (ndB_ok _ rfl) rfl
    exact rtI F hP hD hS dX5_lots_11 (by rw [show (if x.toInt < 1 then 4 else if 20 < x.toInt then 6 else 0) = 4 from (by first | (exfalso; omega) | ((try simp only [true_and, and_true]); (repeat (first | rw [if_pos (by omega)] | rw [if_neg (by omega)])) <;> rfl))]; first | done | exact ⟨_, _, _, _, by rfl, by rfl⟩)
