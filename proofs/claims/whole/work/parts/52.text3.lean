theorem inX3_readInto_X3 : ∀ w ∈ u_ws RX3 TX3 2, w ∈ wsX3_readInto := fun _ h => (List.mem_cons_of_mem _ (List.mem_append_left _ (List.mem_append_left _ (List.mem_append_right _ h))))
theorem lkX3_readInto_1 : Cond.fieldLink RX3 15 "StripInFiveSteps$Text" "size" "I" ∈ wsX3_readInto := List.mem_of_getElem? (i := 1) rfl
theorem kX3_readInto : Cal yX3_readInto wsX3_readInto cX3_readInto 6 (some .int) 2 := ⟨⟨_, rfl⟩, by decide +kernel⟩
set_option maxHeartbeats 1000000 in
set_option maxRecDepth 100000 in
theorem c_X3_readInto (l : Launch) (g : EE) (t0 : Nat) (t1 : Nat) (tn_ : Nat) (tx : Nat → Nat) (h0 : Nat) (h1 : Nat) (h2 : Nat) (W : Nat → Nat) (B : Nat → Nat) (sk : Nat) (ek : Nat) (tr : Nat) (h3 : Nat) (h4 : Nat) (q : Nat → Nat) (n : Nat) (htn : tn_ ≤ 96) (htx : ∀ j, tx j < 256) (hW : ∀ j, W j ≤ 9) (hB : okB B) (hsk : sk ≤ 3) (hek : ek ≤ 4) (htr : tr ≤ 99) : CI l yX3_readInto wsX3_readInto ({ frames := 7, cells := 0, slots := 0, locals := 156 }) g [.ref t0, .ref h0, .ref h3] [(t0, .inr (3, [.ref t1, .int (nI tn_)])), (t1, .inl (eI g, 96, .inl (fun j => nI (tx j)))), (h0, .inr (0, [.ref h1, .ref h2, .int (nI sk), .int (nI ek), .int (nI tr)])), (h1, .inl (eI g, 41, .inl (fun j => nI (W j)))), (h2, .inl (eI g, 5, .inl (fun j => nI (B j)))), (h3, .inr (1, [.ref h4, .int (nI n)])), (h4, .inl (eI g, 7, .inl (fun j => nI (q j))))] (fun (rz : Int32) (wz : va_W) => ∃ W9 : Nat → Nat, ∃ B9 : Nat → Nat, ∃ sk9 : Nat, ∃ ek9 : Nat, ∃ tr9 : Nat, ∃ q9 : Nat → Nat, ∃ n9 : Nat, rz = (rdA tx tn_ (cmb W B sk ek tr)) ∧ wz = [(t0, .inr (3, [.ref t1, .int (nI tn_)])), (t1, .inl (eI g, 96, .inl (fun j => nI (tx j)))), (h0, .inr (0, [.ref h1, .ref h2, .int (nI sk9), .int (nI ek9), .int (nI tr9)])), (h1, .inl (eI g, 41, .inl (fun j => nI (W9 j)))), (h2, .inl (eI g, 5, .inl (fun j => nI (B9 j)))), (h3, .inr (1, [.ref h4, .int (nI n9)])), (h4, .inl (eI g, 7, .inl (fun j => nI (q9 j))))] ∧ (rdG tx tn_ (cmb W B sk ek tr) → cmb W9 B9 sk9 ek9 tr9 = (run tx tn_ 100 0 (cmb W B sk ek tr)).1 ∧ (∀ j, W9 j ≤ 9) ∧ okB B9 ∧ sk9 ≤ 3 ∧ ek9 ≤ 4 ∧ tr9 ≤ 99) ∧ W9 0 = W 0) 0 0 := by
  refine ctI (cc := cX3_readInto) (maxL := 6) (ret := (some .int)) (by decide) rfl (Nat.le_of_ble_eq_true rfl) ?_
  intro p_ e_ s_ m_ bl_ mt_ cd_ A ls F hnm hP hD hS hl
  obtain ⟨hx, hb, hml, hown, hts, hK, hX, hA, hrt_, hlocks⟩ := id F
  have hl : lv_has ls 6 [(0, .ref t0), (1, .ref h0), (2, .ref h3)] := hl
  obtain ⟨hb0, hb1, hb2, hb3, hb4, hb5⟩ := okB_b hB
  refine lv_aload_n hx hb dX3_readInto_0 rfl (lv_at hl 0 rfl) ?_
  refine cVI (As := []) (rest := []) F (c_X3_firstMisfit l g t0 t1 tn_ tx (htn) (htx)) kX3_firstMisfit rfl gX3_readInto_X3_firstMisfit rfl rfl ⟨Nat.le_of_ble_eq_true rfl, Nat.le_of_ble_eq_true rfl⟩ hP hD hS [0, 1] [2, 3, 4, 5, 6] rfl rfl 0 rfl rfl hl.1 rfl rfl (Nat.le_of_ble_eq_true rfl) dX3_readInto_1 ⟨Nat.le_of_ble_eq_true rfl, Nat.le_of_ble_eq_true rfl⟩ (fun rz w1 H locs hpo hP hD hS => ?_)
  obtain ⟨rfl, rfl⟩ := hpo
  obtain ⟨hP, hD⟩ := nx (ws' := [(t0, .inr (3, [.ref t1, .int (nI tn_)])), (t1, .inl (eI g, 96, .inl (fun j => nI (tx j)))), (h0, .inr (0, [.ref h1, .ref h2, .int (nI sk), .int (nI ek), .int (nI tr)])), (h1, .inl (eI g, 41, .inl (fun j => nI (W j)))), (h2, .inl (eI g, 5, .inl (fun j => nI (B j)))), (h3, .inr (1, [.ref h4, .int (nI n)])), (h4, .inl (eI g, 7, .inl (fun j => nI (q j))))]) hP hD [5, 6, 0, 1, 2, 3, 4] (ndB_ok _ rfl) rfl
  rcases Classical.em ((ms tx tn_ 100 0).2 = 0) with hm2 | hm2
  · refine sti (show (if (ms tx tn_ 100 0).2 = 0 then nI (ms tx tn_ 100 0).1 else -9) = (nI ((ms tx tn_ 100 0).1)) from if_pos hm2) ?_
    have hmsl := ms_le tx (tn := tn_) 100 0 (by omega)
    refine lv_istore_n (lv' := [(3, .int (nI ((ms tx tn_ 100 0).1))), (0, .ref t0), (1, .ref h0), (2, .ref h3)]) hx hb dX3_readInto_4 rfl hl (by decide) rfl (fun ls hl => ?_)
    refine lv_iload_n hx hb dX3_readInto_5 rfl (lv_at hl 0 rfl) ?_
    refine zlt (tgt := 15) hx hb dX3_readInto_6 (by decide) (by omega) ?_
    refine lv_sipush (v := (-1000)) hx hb dX3_readInto_9 (by decide) ?_
    refine lv_iload_n hx hb dX3_readInto_12 rfl (lv_at hl 0 rfl) ?_
    refine lv_isub hx hb dX3_readInto_13 ?_
    exact rtI F hP hD hS dX3_readInto_14 (⟨_, _, _, _, _, _, _, by unfold rdA; rw [if_pos hm2], rfl, fun h => absurd hm2 h.1, rfl⟩)
  · refine sti (show (if (ms tx tn_ 100 0).2 = 0 then nI (ms tx tn_ 100 0).1 else -9) = (-9) from if_neg hm2) ?_
    have hmsl := ms_le tx (tn := tn_) 100 0 (by omega)
    refine lv_istore_n (lv' := [(3, .int (-9)), (0, .ref t0), (1, .ref h0), (2, .ref h3)]) hx hb dX3_readInto_4 rfl hl (by decide) rfl (fun ls hl => ?_)
    refine lv_iload_n hx hb dX3_readInto_5 rfl (lv_at hl 0 rfl) ?_
    refine wlt (tgt := 15) hx hb dX3_readInto_6 (by decide) (fun c => ?_) (fun c => absurd c (by decide))
    refine lv_iconst (v := (nI 0)) hx hb dX3_readInto_15 (by decide) ?_
    refine lv_istore (lv' := [(4, .int (nI 0)), (3, .int (-9)), (0, .ref t0), (1, .ref h0), (2, .ref h3)]) hx hb dX3_readInto_16 hl (by decide) rfl (fun ls hl => ?_)
    refine lv_iconst (v := (nI 0)) hx hb dX3_readInto_18 (by decide) ?_
    refine lv_istore (lv' := [(5, .int (nI 0)), (4, .int (nI 0)), (3, .int (-9)), (0, .ref t0), (1, .ref h0), (2, .ref h3)]) hx hb dX3_readInto_19 hl (by decide) rfl (fun ls hl => ?_)
    refine xlo (σ := Nat × Nat × Nat × (Nat → Nat) × (Nat → Nat) × Nat × Nat × Nat × (Nat → Nat) × Nat) 6 (fun xz_ => (fun (p : Nat) (n_ : Nat) (d : Nat) (V : Nat → Nat) (D : Nat → Nat) (sk2 : Nat) (ek2 : Nat) (tr2 : Nat) (qq : Nat → Nat) (nn : Nat) => [(0, .ref t0), (1, .ref h0), (2, .ref h3), (3, .int (-9)), (4, .int (nI n_)), (5, .int (nI p))]) xz_.1 xz_.2.1 xz_.2.2.1 xz_.2.2.2.1 xz_.2.2.2.2.1 xz_.2.2.2.2.2.1 xz_.2.2.2.2.2.2.1 xz_.2.2.2.2.2.2.2.1 xz_.2.2.2.2.2.2.2.2.1 xz_.2.2.2.2.2.2.2.2.2) (fun xz_ => (fun (p : Nat) (n_ : Nat) (d : Nat) (V : Nat → Nat) (D : Nat → Nat) (sk2 : Nat) (ek2 : Nat) (tr2 : Nat) (qq : Nat → Nat) (nn : Nat) => [(t0, .inr (3, [.ref t1, .int (nI tn_)])), (t1, .inl (eI g, 96, .inl (fun j => nI (tx j)))), (h0, .inr (0, [.ref h1, .ref h2, .int (nI sk2), .int (nI ek2), .int (nI tr2)])), (h1, .inl (eI g, 41, .inl (fun j => nI (V j)))), (h2, .inl (eI g, 5, .inl (fun j => nI (D j)))), (h3, .inr (1, [.ref h4, .int (nI nn)])), (h4, .inl (eI g, 7, .inl (fun j => nI (qq j))))]) xz_.1 xz_.2.1 xz_.2.2.1 xz_.2.2.2.1 xz_.2.2.2.2.1 xz_.2.2.2.2.2.1 xz_.2.2.2.2.2.2.1 xz_.2.2.2.2.2.2.2.1 xz_.2.2.2.2.2.2.2.2.1 xz_.2.2.2.2.2.2.2.2.2) (fun xz_ => (fun (p : Nat) (n_ : Nat) (d : Nat) (V : Nat → Nat) (D : Nat → Nat) (sk2 : Nat) (ek2 : Nat) (tr2 : Nat) (qq : Nat → Nat) (nn : Nat) => run tx tn_ 100 0 (cmb W B sk ek tr) = run tx tn_ (d + 1) p (cmb V D sk2 ek2 tr2) ∧ ((∀ j, V j ≤ 9) ∧ okB D ∧ sk2 ≤ 3 ∧ ek2 ≤ 4 ∧ tr2 ≤ 99) ∧ V 0 = W 0 ∧ n_ + cn tx tn_ (d + 1) p = cn tx tn_ 100 0 ∧ tn_ ≤ p + d ∧ p ≤ 96 ∧ (p < tn_ → (ms tx tn_ (d + 1) p).2 = 1)) xz_.1 xz_.2.1 xz_.2.2.1 xz_.2.2.2.1 xz_.2.2.2.2.1 xz_.2.2.2.2.2.1 xz_.2.2.2.2.2.2.1 xz_.2.2.2.2.2.2.2.1 xz_.2.2.2.2.2.2.2.2.1 xz_.2.2.2.2.2.2.2.2.2) (fun xz_ => (fun (p : Nat) (n_ : Nat) (d : Nat) (V : Nat → Nat) (D : Nat → Nat) (sk2 : Nat) (ek2 : Nat) (tr2 : Nat) (qq : Nat → Nat) (nn : Nat) => d + 1 - 0) xz_.1 xz_.2.1 xz_.2.2.1 xz_.2.2.2.1 xz_.2.2.2.2.1 xz_.2.2.2.2.2.1 xz_.2.2.2.2.2.2.1 xz_.2.2.2.2.2.2.2.1 xz_.2.2.2.2.2.2.2.2.1 xz_.2.2.2.2.2.2.2.2.2) (fun xz_ hI ih21 H locs ls hP hD hS hl => ?_) (0, 0, 99, W, B, sk, ek, tr, q, n) (show run tx tn_ 100 0 (cmb W B sk ek tr) = run tx tn_ (99 + 1) 0 (cmb W B sk ek tr) ∧ ((∀ j, W j ≤ 9) ∧ okB B ∧ sk ≤ 3 ∧ ek ≤ 4 ∧ tr ≤ 99) ∧ W 0 = W 0 ∧ 0 + cn tx tn_ (99 + 1) 0 = cn tx tn_ 100 0 ∧ tn_ ≤ 0 + 99 ∧ 0 ≤ 96 ∧ (0 < tn_ → (ms tx tn_ (99 + 1) 0).2 = 1) from (⟨rfl, ⟨hW, hB, hsk, hek, htr⟩, rfl, Nat.zero_add _, by omega, by omega, fun _ => (ms_01 tx tn_ 100 0).resolve_left hm2⟩)) hP hD hS (lv_sub hl [3, 4, 5, 2, 1, 0] rfl)
    obtain ⟨p, n_, d, V, D, sk2, ek2, tr2, qq, nn⟩ := xz_
    have hP : va_P (eD g) vwCl [(t0, .inr (3, [.ref t1, .int (nI tn_)])), (t1, .inl (eI g, 96, .inl (fun j => nI (tx j)))), (h0, .inr (0, [.ref h1, .ref h2, .int (nI sk2), .int (nI ek2), .int (nI tr2)])), (h1, .inl (eI g, 41, .inl (fun j => nI (V j)))), (h2, .inl (eI g, 5, .inl (fun j => nI (D j)))), (h3, .inr (1, [.ref h4, .int (nI nn)])), (h4, .inl (eI g, 7, .inl (fun j => nI (qq j))))] H := hP
    have hD : va_D A [(t0, .inr (3, [.ref t1, .int (nI tn_)])), (t1, .inl (eI g, 96, .inl (fun j => nI (tx j)))), (h0, .inr (0, [.ref h1, .ref h2, .int (nI sk2), .int (nI ek2), .int (nI tr2)])), (h1, .inl (eI g, 41, .inl (fun j => nI (V j)))), (h2, .inl (eI g, 5, .inl (fun j => nI (D j)))), (h3, .inr (1, [.ref h4, .int (nI nn)])), (h4, .inl (eI g, 7, .inl (fun j => nI (qq j))))] := hD
    have hl : lv_has ls 6 [(0, .ref t0), (1, .ref h0), (2, .ref h3), (3, .int (-9)), (4, .int (nI n_)), (5, .int (nI p))] := hl
    have hI21 : run tx tn_ 100 0 (cmb W B sk ek tr) = run tx tn_ (d + 1) p (cmb V D sk2 ek2 tr2) ∧ ((∀ j, V j ≤ 9) ∧ okB D ∧ sk2 ≤ 3 ∧ ek2 ≤ 4 ∧ tr2 ≤ 99) ∧ V 0 = W 0 ∧ n_ + cn tx tn_ (d + 1) p = cn tx tn_ 100 0 ∧ tn_ ≤ p + d ∧ p ≤ 96 ∧ (p < tn_ → (ms tx tn_ (d + 1) p).2 = 1) := hI
    clear hI
    obtain ⟨hrun, ⟨hW2, hB2, hsk2, hek2, htr2⟩, hV0, hcn, htd, hp96, hwf⟩ := id hI21
    refine lv_iload hx hb dX3_readInto_21 (lv_at hl 5 rfl) ?_
    refine lv_aload_n hx hb dX3_readInto_23 rfl (lv_at hl 0 rfl) ?_
    refine xget F hP inX3_readInto_X3 0 rfl rfl 1 (by decide) lkX3_readInto_1 rfl dX3_readInto_24 ?_
    refine xge (tgt := 73) hx hb dX3_readInto_27 (by decide) (by omega) (by omega) (fun c27 => ?_) (fun c27 => ?_)
    · skip
      refine lv_iload hx hb dX3_readInto_73 (lv_at hl 4 rfl) ?_
      exact rtI F hP hD hS dX3_readInto_75 (⟨_, _, _, _, _, _, _, by unfold rdA; rw [if_neg hm2, hrun, run_end (by omega), if_pos rfl, ← hcn, cn_end (by omega)]; rfl, rfl, fun _ => by rw [hrun, run_end (by omega)]; exact ⟨rfl, hW2, hB2, hsk2, hek2, htr2⟩, hV0⟩)
    · skip
      have hm1 := ms_stm (hwf (by omega))
      have hcnl := cn_le (tx := tx) (tn := tn_) 100 0
      obtain ⟨hpt, hf6, hst1, hk4⟩ := stm_ok hm1.1
      have hln := ln_b (fmN (tx p)) (by omega)
      refine lv_aload_n hx hb dX3_readInto_30 rfl (lv_at hl 0 rfl) ?_
      refine lv_iload hx hb dX3_readInto_31 (lv_at hl 5 rfl) ?_
      refine lv_aload_n hx hb dX3_readInto_33 rfl (lv_at hl 1 rfl) ?_
      refine lv_aload_n hx hb dX3_readInto_34 rfl (lv_at hl 2 rfl) ?_
      refine cVI (As := [.int (nI p), .ref h0, .ref h3]) (rest := []) F (c_X3_comes l g t0 t1 tn_ tx h0 h1 h2 V D sk2 ek2 tr2 h3 h4 qq nn p (htn) (htx) (hW2) (hB2) (hsk2) (hek2) (htr2) (hm1.1)) kX3_comes rfl gX3_readInto_X3_comes rfl rfl ⟨Nat.le_of_ble_eq_true rfl, Nat.le_of_ble_eq_true rfl⟩ hP hD hS [0, 1, 2, 3, 4, 5, 6] [] rfl rfl 0 rfl rfl hl.1 rfl rfl (Nat.le_of_ble_eq_true rfl) dX3_readInto_35 ⟨Nat.le_of_ble_eq_true rfl, Nat.le_of_ble_eq_true rfl⟩ (fun rz w1 H locs hpo hP hD hS => ?_)
      obtain ⟨W9_2, B9_2, sk9_2, ek9_2, tr9_2, q9_2, n9_2, rfl, rfl, hpo2⟩ := hpo
      obtain ⟨hP, hD⟩ := nx (ws' := [(t0, .inr (3, [.ref t1, .int (nI tn_)])), (t1, .inl (eI g, 96, .inl (fun j => nI (tx j)))), (h0, .inr (0, [.ref h1, .ref h2, .int (nI sk9_2), .int (nI ek9_2), .int (nI tr9_2)])), (h1, .inl (eI g, 41, .inl (fun j => nI (W9_2 j)))), (h2, .inl (eI g, 5, .inl (fun j => nI (B9_2 j)))), (h3, .inr (1, [.ref h4, .int (nI n9_2)])), (h4, .inl (eI g, 7, .inl (fun j => nI (q9_2 j))))]) hP hD [0, 1, 2, 3, 4, 5, 6] (ndB_ok _ rfl) rfl
      obtain ⟨hq, hz0⟩ := hpo2
      refine bqne (tgt := 48) hx hb dX3_readInto_38 (by decide) (fun c38 => ?_) (fun c38 => ?_)
      · skip
        have hef := c38
        have hq1 := hq c38
        refine lv_iinc (v := (nI (n_ + 1))) (lv' := [(4, .int (nI (n_ + 1))), (0, .ref t0), (1, .ref h0), (2, .ref h3), (3, .int (-9)), (5, .int (nI p))]) hx hb dX3_readInto_48 hl (k := 4) rfl (iincP n_ 1) (by decide) rfl (fun ls hl => ?_)
        refine lv_iload hx hb dX3_readInto_51 (lv_at hl 5 rfl) ?_
        refine lv_iconst (v := (nI 1)) hx hb dX3_readInto_53 (by decide) ?_
        refine lv_aload_n hx hb dX3_readInto_54 rfl (lv_at hl 1 rfl) ?_
        refine lv_iload hx hb dX3_readInto_55 (lv_at hl 5 rfl) ?_
        refine cVI (As := [.int (nI p)]) (rest := [.int (nI 1), .int (nI p)]) F (n_X3_letterAt l g t0 t1 tn_ tx p (htn) (htx) (hpt)) kX3_letterAt rfl gX3_readInto_X3_letterAt rfl rfl ⟨Nat.le_of_ble_eq_true rfl, Nat.le_of_ble_eq_true rfl⟩ hP hD hS [0, 1] [2, 3, 4, 5, 6] rfl rfl 0 rfl rfl hl.1 rfl rfl (Nat.le_of_ble_eq_true rfl) dX3_readInto_57 ⟨Nat.le_of_ble_eq_true rfl, Nat.le_of_ble_eq_true rfl⟩ (fun rz w1 H locs hpo hP hD hS => ?_)
        obtain ⟨rfl, rfl⟩ := hpo
        obtain ⟨hP, hD⟩ := nx (ws' := [(t0, .inr (3, [.ref t1, .int (nI tn_)])), (t1, .inl (eI g, 96, .inl (fun j => nI (tx j)))), (h0, .inr (0, [.ref h1, .ref h2, .int (nI sk9_2), .int (nI ek9_2), .int (nI tr9_2)])), (h1, .inl (eI g, 41, .inl (fun j => nI (W9_2 j)))), (h2, .inl (eI g, 5, .inl (fun j => nI (B9_2 j)))), (h3, .inr (1, [.ref h4, .int (nI n9_2)])), (h4, .inl (eI g, 7, .inl (fun j => nI (q9_2 j))))]) hP hD [5, 6, 0, 1, 2, 3, 4] (ndB_ok _ rfl) rfl
        refine cSR (As := [.int (nI (tx p))]) (rest := [.int (nI 1), .int (nI p)]) F (c_X3_formOf l g (nI (tx p)) ) kX3_formOf gX3_readInto_X3_formOf rfl rfl ⟨Nat.le_of_ble_eq_true rfl, Nat.le_of_ble_eq_true rfl⟩ hP hD hS [] [0, 1, 2, 3, 4, 5, 6] rfl rfl hl.1 rfl rfl (Nat.le_of_ble_eq_true rfl) dX3_readInto_60 ⟨Nat.le_of_ble_eq_true rfl, Nat.le_of_ble_eq_true rfl⟩ (fun rz w1 H locs hpo hP hD hS => ?_)
        obtain ⟨rfl, rfl⟩ := hpo
        obtain ⟨hP, hD⟩ := nx (ws' := [(t0, .inr (3, [.ref t1, .int (nI tn_)])), (t1, .inl (eI g, 96, .inl (fun j => nI (tx j)))), (h0, .inr (0, [.ref h1, .ref h2, .int (nI sk9_2), .int (nI ek9_2), .int (nI tr9_2)])), (h1, .inl (eI g, 41, .inl (fun j => nI (W9_2 j)))), (h2, .inl (eI g, 5, .inl (fun j => nI (B9_2 j)))), (h3, .inr (1, [.ref h4, .int (nI n9_2)])), (h4, .inl (eI g, 7, .inl (fun j => nI (q9_2 j))))]) hP hD [0, 1, 2, 3, 4, 5, 6] (ndB_ok _ rfl) rfl
        refine cKI (As := []) (rest := [.int (nI 1), .int (nI p)]) F (i := (fmI (nI (tx p)))) (c_J0_length_8abf5 l g (fmI (nI (tx p))) (by have := fmI_b (nI (tx p)); omega)) kJ0_length_8abf5 rfl gX3_readInto_J0_length_8abf5 rfl rfl ⟨Nat.le_of_ble_eq_true rfl, Nat.le_of_ble_eq_true rfl⟩ hP hD hS [] [0, 1, 2, 3, 4, 5, 6] rfl rfl (by have := fmI_b (nI (tx p)); omega) hl.1 rfl rfl (Nat.le_of_ble_eq_true rfl) dX3_readInto_63 ⟨Nat.le_of_ble_eq_true rfl, Nat.le_of_ble_eq_true rfl⟩ (fun rz w1 H locs hpo hP hD hS => ?_)
        obtain ⟨rfl, rfl⟩ := hpo
        obtain ⟨hP, hD⟩ := nx (ws' := [(t0, .inr (3, [.ref t1, .int (nI tn_)])), (t1, .inl (eI g, 96, .inl (fun j => nI (tx j)))), (h0, .inr (0, [.ref h1, .ref h2, .int (nI sk9_2), .int (nI ek9_2), .int (nI tr9_2)])), (h1, .inl (eI g, 41, .inl (fun j => nI (W9_2 j)))), (h2, .inl (eI g, 5, .inl (fun j => nI (B9_2 j)))), (h3, .inr (1, [.ref h4, .int (nI n9_2)])), (h4, .inl (eI g, 7, .inl (fun j => nI (q9_2 j))))]) hP hD [0, 1, 2, 3, 4, 5, 6] (ndB_ok _ rfl) rfl
        refine sti (congrArg nI (show ln (fmI (nI (tx p))) = ln (fmN (tx p)) from by rw [fmI_n (htx p)])) ?_
        refine xadd hx hb dX3_readInto_66 ?_
        refine xadd hx hb dX3_readInto_67 ?_
        refine lv_istore (lv' := [(5, .int (nI (p + (1 + (ln (fmN (tx p))))))), (4, .int (nI (n_ + 1))), (0, .ref t0), (1, .ref h0), (2, .ref h3), (3, .int (-9))]) hx hb dX3_readInto_68 hl (by decide) rfl (fun ls hl => ?_)
        refine lv_goto (tgt := 21) hx hb dX3_readInto_70 (by decide) ?_
        exact ih21 (p + (1 + (ln (fmN (tx p)))), n_ + 1, (d - 1), W9_2, B9_2, sk9_2, ek9_2, tr9_2, q9_2, n9_2) (show run tx tn_ 100 0 (cmb W B sk ek tr) = run tx tn_ ((d - 1) + 1) (p + (1 + (ln (fmN (tx p))))) (cmb W9_2 B9_2 sk9_2 ek9_2 tr9_2) ∧ ((∀ j, W9_2 j ≤ 9) ∧ okB B9_2 ∧ sk9_2 ≤ 3 ∧ ek9_2 ≤ 4 ∧ tr9_2 ≤ 99) ∧ W9_2 0 = W 0 ∧ (n_ + 1) + cn tx tn_ ((d - 1) + 1) (p + (1 + (ln (fmN (tx p))))) = cn tx tn_ 100 0 ∧ tn_ ≤ (p + (1 + (ln (fmN (tx p))))) + (d - 1) ∧ (p + (1 + (ln (fmN (tx p))))) ≤ 96 ∧ ((p + (1 + (ln (fmN (tx p))))) < tn_ → (ms tx tn_ ((d - 1) + 1) (p + (1 + (ln (fmN (tx p)))))).2 = 1) from (⟨by rw [hrun, show d + 1 = (d - 1 + 1) + 1 by omega, run_go (by omega) hef, hst1, hq1.1, show p + 1 + ln (fmN (tx p)) = p + (1 + ln (fmN (tx p))) by omega], hq1.2, hz0.trans hV0, by have e := cn_go (tx := tx) (d := d) (show p < tn_ by omega); rw [hst1] at e; rw [show d - 1 + 1 = d by omega, show p + (1 + ln (fmN (tx p))) = p + 1 + ln (fmN (tx p)) by omega]; omega, by omega, by have := stm_le tx (show p ≤ tn_ by omega); omega, fun hh => by have := hm1.2; rw [hst1] at this; rw [show d - 1 + 1 = d by omega, show p + (1 + ln (fmN (tx p))) = p + 1 + ln (fmN (tx p)) by omega]; exact this (by omega)⟩)) (show (d - 1) + 1 - 0 < d + 1 - 0 from (by omega)) _ _ _ hP hD hS (lv_sub hl [2, 3, 4, 5, 1, 0] rfl)
      · skip
        have hef := c38
        refine lv_sipush (v := (-2000)) hx hb dX3_readInto_41 (by decide) ?_
        refine lv_iload hx hb dX3_readInto_44 (lv_at hl 5 rfl) ?_
        refine lv_isub hx hb dX3_readInto_46 ?_
        exact rtI F hP hD hS dX3_readInto_47 (⟨_, _, _, _, _, _, _, by unfold rdA; rw [if_neg hm2, hrun, run_no (by omega) hef, if_neg (by show ¬ (p + 1 = 0); omega)]; rfl, rfl, fun h => by have z := h.2; rw [hrun, run_no (by omega) hef] at z; exact absurd z (by show ¬ (p + 1 = 0); omega), hz0.trans hV0⟩)

theorem inX4_shed_X4 : ∀ w ∈ u_ws RX4 TX4 10, w ∈ wsX4_shed := fun _ h => (List.mem_cons_of_mem _ (List.mem_append_left _ (List.mem_append_left _ (List.mem_append_left _ (List.mem_append_right _ h)))))
theorem lkX4_shed_1 : Cond.fieldLink RX4 16 "StripInFiveSteps" "draft" "LStripInFiveSteps$Shed;" ∈ wsX4_shed := List.mem_of_getElem? (i := 1) rfl
theorem lkX4_shed_2 : Cond.fieldLink RX4 10 "StripInFiveSteps" "now" "LStripInFiveSteps$Shed;" ∈ wsX4_shed := List.mem_of_getElem? (i := 2) rfl
theorem lkX4_shed_3 : Cond.fieldLink RX4 43 "StripInFiveSteps" "text" "LStripInFiveSteps$Text;" ∈ wsX4_shed := List.mem_of_getElem? (i := 3) rfl
theorem lkX4_shed_4 : Cond.fieldLink RX4 29 "StripInFiveSteps" "strip" "LStripInFiveSteps$Strip;" ∈ wsX4_shed := List.mem_of_getElem? (i := 4) rfl
theorem kX4_shed : Cal yX4_shed wsX4_shed cX4_shed 2 (some .int) 0 := ⟨⟨_, rfl⟩, by decide +kernel⟩
set_option maxHeartbeats 1000000 in
set_option maxRecDepth 100000 in
theorem c_X4_shed (l : Launch) (g : EE) (x0 : Nat) (h0 : Nat) (d0 : Nat) (k0 : Nat) (b0 : Nat) (a0 : Nat) (t0 : Nat) (r0 : Nat) (r1 : Nat) (ik : Nat) (rn : Nat) (h1 : Nat) (h2 : Nat) (W : Nat → Nat) (B : Nat → Nat) (sk : Nat) (ek : Nat) (tr : Nat) (d1 : Nat) (d2 : Nat) (Wd : Nat → Nat) (Bd : Nat → Nat) (skd : Nat) (ekd : Nat) (trd : Nat) (b1 : Nat) (q : Nat → Nat) (n : Nat) (t1 : Nat) (tn_ : Nat) (tx : Nat → Nat) (htn : tn_ ≤ 96) (htx : ∀ j, tx j < 256) (hW : ∀ j, W j ≤ 9) (hB : okB B) (hsk : sk ≤ 3) (hek : ek ≤ 4) (htr : tr ≤ 99) (hd0 : Wd 0 = W 0) : CI l yX4_shed wsX4_shed ({ frames := 8, cells := 0, slots := 0, locals := 181 }) g [.ref x0] [(x0, .inr (4, [.ref h0, .ref d0, .ref k0, .int (nI ik), .ref b0, .ref a0, .ref t0, .ref r0, .int (nI rn), .ref r1])), (h0, .inr (0, [.ref h1, .ref h2, .int (nI sk), .int (nI ek), .int (nI tr)])), (h1, .inl (eI g, 41, .inl (fun j => nI (W j)))), (h2, .inl (eI g, 5, .inl (fun j => nI (B j)))), (d0, .inr (0, [.ref d1, .ref d2, .int (nI skd), .int (nI ekd), .int (nI trd)])), (d1, .inl (eI g, 41, .inl (fun j => nI (Wd j)))), (d2, .inl (eI g, 5, .inl (fun j => nI (Bd j)))), (b0, .inr (1, [.ref b1, .int (nI n)])), (b1, .inl (eI g, 7, .inl (fun j => nI (q j)))), (t0, .inr (3, [.ref t1, .int (nI tn_)])), (t1, .inl (eI g, 96, .inl (fun j => nI (tx j))))] (fun (rz : Int32) (wz : va_W) => ∃ W9 : Nat → Nat, ∃ B9 : Nat → Nat, ∃ sk9 : Nat, ∃ ek9 : Nat, ∃ tr9 : Nat, ∃ V9 : Nat → Nat, ∃ D9 : Nat → Nat, ∃ sd9 : Nat, ∃ ed9 : Nat, ∃ td9 : Nat, ∃ q9 : Nat → Nat, ∃ n9 : Nat, rz = (rdA tx tn_ (cmb W B sk ek tr)) ∧ wz = [(x0, .inr (4, [.ref h0, .ref d0, .ref k0, .int (nI ik), .ref b0, .ref a0, .ref t0, .ref r0, .int (nI rn), .ref r1])), (h0, .inr (0, [.ref h1, .ref h2, .int (nI sk9), .int (nI ek9), .int (nI tr9)])), (h1, .inl (eI g, 41, .inl (fun j => nI (W9 j)))), (h2, .inl (eI g, 5, .inl (fun j => nI (B9 j)))), (d0, .inr (0, [.ref d1, .ref d2, .int (nI sd9), .int (nI ed9), .int (nI td9)])), (d1, .inl (eI g, 41, .inl (fun j => nI (V9 j)))), (d2, .inl (eI g, 5, .inl (fun j => nI (D9 j)))), (b0, .inr (1, [.ref b1, .int (nI n9)])), (b1, .inl (eI g, 7, .inl (fun j => nI (q9 j)))), (t0, .inr (3, [.ref t1, .int (nI 0)])), (t1, .inl (eI g, 96, .inl (fun j => nI (tx j))))] ∧ cmb W9 B9 sk9 ek9 tr9 = (if rdG tx tn_ (cmb W B sk ek tr) then (run tx tn_ 100 0 (cmb W B sk ek tr)).1 else (cmb W B sk ek tr)) ∧ ((∀ j, W9 j ≤ 9) ∧ okB B9 ∧ sk9 ≤ 3 ∧ ek9 ≤ 4 ∧ tr9 ≤ 99) ∧ W9 0 = W 0 ∧ V9 0 = W 0) 0 0 := by
  refine ctI (cc := cX4_shed) (maxL := 2) (ret := (some .int)) (by decide) rfl (Nat.le_of_ble_eq_true rfl) ?_
  intro p_ e_ s_ m_ bl_ mt_ cd_ A ls F hnm hP hD hS hl
  obtain ⟨hx, hb, hml, hown, hts, hK, hX, hA, hrt_, hlocks⟩ := id F
  have hl : lv_has ls 2 [(0, .ref x0)] := hl
  obtain ⟨hb0, hb1, hb2, hb3, hb4, hb5⟩ := okB_b hB
  refine lv_aload_n hx hb dX4_shed_0 rfl (lv_at hl 0 rfl) ?_
  refine xget F hP inX4_shed_X4 0 rfl rfl 1 (by decide) lkX4_shed_1 rfl dX4_shed_1 ?_
  refine lv_aload_n hx hb dX4_shed_4 rfl (lv_at hl 0 rfl) ?_
  refine xget F hP inX4_shed_X4 0 rfl rfl 0 (by decide) lkX4_shed_2 rfl dX4_shed_5 ?_
  refine cVV (As := [.ref h0]) (rest := []) F (c_X0_copyFrom l g d0 d1 d2 Wd Bd skd ekd trd h0 h1 h2 W B sk ek tr (hd0)) kX0_copyFrom rfl gX4_shed_X0_copyFrom rfl rfl ⟨Nat.le_of_ble_eq_true rfl, Nat.le_of_ble_eq_true rfl⟩ hP hD hS [4, 5, 6, 1, 2, 3] [0, 7, 8, 9, 10] rfl rfl 0 rfl rfl hl.1 rfl rfl (Nat.le_of_ble_eq_true rfl) dX4_shed_8 ⟨Nat.le_of_ble_eq_true rfl, Nat.le_of_ble_eq_true rfl⟩ (fun w1 H locs hpo hP hD hS => ?_)
  subst hpo
  obtain ⟨hP, hD⟩ := nx (ws' := [(x0, .inr (4, [.ref h0, .ref d0, .ref k0, .int (nI ik), .ref b0, .ref a0, .ref t0, .ref r0, .int (nI rn), .ref r1])), (h0, .inr (0, [.ref h1, .ref h2, .int (nI sk), .int (nI ek), .int (nI tr)])), (h1, .inl (eI g, 41, .inl (fun j => nI (W j)))), (h2, .inl (eI g, 5, .inl (fun j => nI (B j)))), (d0, .inr (0, [.ref d1, .ref d2, .int (nI sk), .int (nI ek), .int (nI tr)])), (d1, .inl (eI g, 41, .inl (fun j => nI (W j)))), (d2, .inl (eI g, 5, .inl (fun j => nI (B j)))), (b0, .inr (1, [.ref b1, .int (nI n)])), (b1, .inl (eI g, 7, .inl (fun j => nI (q j)))), (t0, .inr (3, [.ref t1, .int (nI tn_)])), (t1, .inl (eI g, 96, .inl (fun j => nI (tx j))))]) hP hD [0, 8, 9, 10, 5, 6, 7, 1, 2, 3, 4] (ndB_ok _ rfl) rfl
  refine lv_aload_n hx hb dX4_shed_11 rfl (lv_at hl 0 rfl) ?_
  refine xget F hP inX4_shed_X4 0 rfl rfl 6 (by decide) lkX4_shed_3 rfl dX4_shed_12 ?_
  refine lv_aload_n hx hb dX4_shed_15 rfl (lv_at hl 0 rfl) ?_
  refine xget F hP inX4_shed_X4 0 rfl rfl 1 (by decide) lkX4_shed_1 rfl dX4_shed_16 ?_
  refine lv_aload_n hx hb dX4_shed_19 rfl (lv_at hl 0 rfl) ?_
  refine xget F hP inX4_shed_X4 0 rfl rfl 4 (by decide) lkX4_shed_4 rfl dX4_shed_20 ?_
  refine cVI (As := [.ref d0, .ref b0]) (rest := []) F (c_X3_readInto l g t0 t1 tn_ tx d0 d1 d2 W B sk ek tr b0 b1 q n (htn) (htx) (hW) (hB) (hsk) (hek) (htr)) kX3_readInto rfl gX4_shed_X3_readInto rfl rfl ⟨Nat.le_of_ble_eq_true rfl, Nat.le_of_ble_eq_true rfl⟩ hP hD hS [9, 10, 4, 5, 6, 7, 8] [0, 1, 2, 3] rfl rfl 0 rfl rfl hl.1 rfl rfl (Nat.le_of_ble_eq_true rfl) dX4_shed_23 ⟨Nat.le_of_ble_eq_true rfl, Nat.le_of_ble_eq_true rfl⟩ (fun rz w1 H locs hpo hP hD hS => ?_)
  obtain ⟨W9_2, B9_2, sk9_2, ek9_2, tr9_2, q9_2, n9_2, rfl, rfl, hpo2⟩ := hpo
  obtain ⟨hP, hD⟩ := nx (ws' := [(x0, .inr (4, [.ref h0, .ref d0, .ref k0, .int (nI ik), .ref b0, .ref a0, .ref t0, .ref r0, .int (nI rn), .ref r1])), (h0, .inr (0, [.ref h1, .ref h2, .int (nI sk), .int (nI ek), .int (nI tr)])), (h1, .inl (eI g, 41, .inl (fun j => nI (W j)))), (h2, .inl (eI g, 5, .inl (fun j => nI (B j)))), (d0, .inr (0, [.ref d1, .ref d2, .int (nI sk9_2), .int (nI ek9_2), .int (nI tr9_2)])), (d1, .inl (eI g, 41, .inl (fun j => nI (W9_2 j)))), (d2, .inl (eI g, 5, .inl (fun j => nI (B9_2 j)))), (b0, .inr (1, [.ref b1, .int (nI n9_2)])), (b1, .inl (eI g, 7, .inl (fun j => nI (q9_2 j)))), (t0, .inr (3, [.ref t1, .int (nI tn_)])), (t1, .inl (eI g, 96, .inl (fun j => nI (tx j))))]) hP hD [0, 1, 2, 3, 6, 7, 8, 9, 10, 4, 5] (ndB_ok _ rfl) rfl
  obtain ⟨hq9, hz9⟩ := hpo2
  refine lv_istore_n (lv' := [(1, .int (rdA tx tn_ (cmb W B sk ek tr))), (0, .ref x0)]) hx hb dX4_shed_26 rfl hl (by decide) rfl (fun ls hl => ?_)
  refine lv_aload_n hx hb dX4_shed_27 rfl (lv_at hl 1 rfl) ?_
  refine xget F hP inX4_shed_X4 0 rfl rfl 6 (by decide) lkX4_shed_3 rfl dX4_shed_28 ?_
  refine cVV (As := []) (rest := []) F (c_X3_clear l g t0 t1 tn_ ) kX3_clear rfl gX4_shed_X3_clear rfl rfl ⟨Nat.le_of_ble_eq_true rfl, Nat.le_of_ble_eq_true rfl⟩ hP hD hS [9] [0, 1, 2, 3, 4, 5, 6, 7, 8, 10] rfl rfl 0 rfl rfl hl.1 rfl rfl (Nat.le_of_ble_eq_true rfl) dX4_shed_31 ⟨Nat.le_of_ble_eq_true rfl, Nat.le_of_ble_eq_true rfl⟩ (fun w1 H locs hpo hP hD hS => ?_)
  subst hpo
  obtain ⟨hP, hD⟩ := nx (ws' := [(x0, .inr (4, [.ref h0, .ref d0, .ref k0, .int (nI ik), .ref b0, .ref a0, .ref t0, .ref r0, .int (nI rn), .ref r1])), (h0, .inr (0, [.ref h1, .ref h2, .int (nI sk), .int (nI ek), .int (nI tr)])), (h1, .inl (eI g, 41, .inl (fun j => nI (W j)))), (h2, .inl (eI g, 5, .inl (fun j => nI (B j)))), (d0, .inr (0, [.ref d1, .ref d2, .int (nI sk9_2), .int (nI ek9_2), .int (nI tr9_2)])), (d1, .inl (eI g, 41, .inl (fun j => nI (W9_2 j)))), (d2, .inl (eI g, 5, .inl (fun j => nI (B9_2 j)))), (b0, .inr (1, [.ref b1, .int (nI n9_2)])), (b1, .inl (eI g, 7, .inl (fun j => nI (q9_2 j)))), (t0, .inr (3, [.ref t1, .int (nI 0)])), (t1, .inl (eI g, 96, .inl (fun j => nI (tx j))))]) hP hD [0, 1, 2, 3, 4, 5, 6, 7, 8, 10, 9] (ndB_ok _ rfl) rfl
  refine lv_iload_n hx hb dX4_shed_34 rfl (lv_at hl 0 rfl) ?_
  refine wle (tgt := 49) hx hb dX4_shed_35 (by decide) (fun c35 => ?_) (fun c35 => ?_)
  · skip
    have hnG : ¬ rdG tx tn_ (cmb W B sk ek tr) := fun z => rdA_neg htn z c35
    refine lv_iload_n hx hb dX4_shed_49 rfl (lv_at hl 0 rfl) ?_
    exact rtI F hP hD hS dX4_shed_50 (⟨_, _, _, _, _, _, _, _, _, _, _, _, rfl, rfl, by rw [if_neg (fun z => hnG z)], ⟨hW, hB, hsk, hek, htr⟩, rfl, hz9⟩)
  · skip
    have hG := rdA_pos htn (tx := tx) (S := (cmb W B sk ek tr)) (by omega)
    refine lv_aload_n hx hb dX4_shed_38 rfl (lv_at hl 1 rfl) ?_
    refine xget F hP inX4_shed_X4 0 rfl rfl 0 (by decide) lkX4_shed_2 rfl dX4_shed_39 ?_
    refine lv_aload_n hx hb dX4_shed_42 rfl (lv_at hl 1 rfl) ?_
    refine xget F hP inX4_shed_X4 0 rfl rfl 1 (by decide) lkX4_shed_1 rfl dX4_shed_43 ?_
    refine cVV (As := [.ref d0]) (rest := []) F (c_X0_copyFrom l g h0 h1 h2 W B sk ek tr d0 d1 d2 W9_2 B9_2 sk9_2 ek9_2 tr9_2 (hz9.symm)) kX0_copyFrom rfl gX4_shed_X0_copyFrom rfl rfl ⟨Nat.le_of_ble_eq_true rfl, Nat.le_of_ble_eq_true rfl⟩ hP hD hS [1, 2, 3, 4, 5, 6] [0, 7, 8, 9, 10] rfl rfl 0 rfl rfl hl.1 rfl rfl (Nat.le_of_ble_eq_true rfl) dX4_shed_46 ⟨Nat.le_of_ble_eq_true rfl, Nat.le_of_ble_eq_true rfl⟩ (fun w1 H locs hpo hP hD hS => ?_)
    subst hpo
    obtain ⟨hP, hD⟩ := nx (ws' := [(x0, .inr (4, [.ref h0, .ref d0, .ref k0, .int (nI ik), .ref b0, .ref a0, .ref t0, .ref r0, .int (nI rn), .ref r1])), (h0, .inr (0, [.ref h1, .ref h2, .int (nI sk9_2), .int (nI ek9_2), .int (nI tr9_2)])), (h1, .inl (eI g, 41, .inl (fun j => nI (W9_2 j)))), (h2, .inl (eI g, 5, .inl (fun j => nI (B9_2 j)))), (d0, .inr (0, [.ref d1, .ref d2, .int (nI sk9_2), .int (nI ek9_2), .int (nI tr9_2)])), (d1, .inl (eI g, 41, .inl (fun j => nI (W9_2 j)))), (d2, .inl (eI g, 5, .inl (fun j => nI (B9_2 j)))), (b0, .inr (1, [.ref b1, .int (nI n9_2)])), (b1, .inl (eI g, 7, .inl (fun j => nI (q9_2 j)))), (t0, .inr (3, [.ref t1, .int (nI 0)])), (t1, .inl (eI g, 96, .inl (fun j => nI (tx j))))]) hP hD [0, 5, 6, 7, 8, 9, 10, 1, 2, 3, 4] (ndB_ok _ rfl) rfl
    refine lv_iload_n hx hb dX4_shed_49 rfl (lv_at hl 0 rfl) ?_
    exact rtI F hP hD hS dX4_shed_50 (⟨_, _, _, _, _, _, _, _, _, _, _, _, rfl, rfl, by rw [if_pos hG]; exact (hq9 hG).1, (hq9 hG).2, hz9, hz9⟩)
