theorem inX5_isAllSo_X5 : ∀ w ∈ u_ws RX5 TX5 20, w ∈ wsX5_isAllSo := fun _ h => (List.mem_cons_of_mem _ (List.mem_append_right _ h))
theorem lkX5_isAllSo_1 : Cond.fieldLink RX5 170 "StripInFiveStepsModel" "lined" "I" ∈ wsX5_isAllSo := List.mem_of_getElem? (i := 1) rfl
theorem lkX5_isAllSo_2 : Cond.fieldLink RX5 37 "StripInFiveStepsModel" "line" "[I" ∈ wsX5_isAllSo := List.mem_of_getElem? (i := 2) rfl
theorem kX5_isAllSo : Cal yX5_isAllSo wsX5_isAllSo cX5_isAllSo 3 (some .boolean) 0 := ⟨⟨_, rfl⟩, by decide +kernel⟩
set_option maxHeartbeats 1000000 in
set_option maxRecDepth 100000 in
theorem c_X5_isAllSo (l : Launch) (g : EE) (m0 : Nat) (m1 : Nat) (m2 : Nat) (m3 : Nat) (m4 : Nat) (m5 : Nat) (m6 : Nat) (m7 : Nat) (m8 : Nat) (m9 : Nat) (m10 : Nat) (m11 : Nat) (m12 : Nat) (m13 : Nat) (m14 : Nat) (kp : Nat) (rn : Nat) (tn : Nat) (ia : Nat) (wl : Nat) (si : Nat) (S : Nat → Nat) (rw_ : Nat → Nat) (hO : okS S) (hok : okR rw_ rn) (hrn : rn ≤ 12) (hrw : ∀ j, rw_ j ≤ 99) : CI l yX5_isAllSo wsX5_isAllSo ({ frames := 4, cells := 0, slots := 0, locals := 90 }) g [.ref m0] [(m0, .inr (5, [.ref m1, .ref m2, .ref m3, .int (nI kp), .ref m4, .ref m5, .ref m6, .ref m7, .ref m8, .int (nI rn), .ref m9, .int (nI tn), .int (nI ia), .int (nI wl), .ref m10, .ref m11, .ref m12, .int (nI si), .ref m13, .ref m14])), (m2, .inl (eI g, 49, .inl (fun j => nI (S j)))), (m8, .inl (eI g, 12, .inl (fun j => nI (rw_ j))))] (fun (rz : Int32) (wz : va_W) => rz = (nI (if toldR (tlS S) rw_ rn then 1 else 0)) ∧ wz = [(m0, .inr (5, [.ref m1, .ref m2, .ref m3, .int (nI kp), .ref m4, .ref m5, .ref m6, .ref m7, .ref m8, .int (nI rn), .ref m9, .int (nI tn), .int (nI ia), .int (nI wl), .ref m10, .ref m11, .ref m12, .int (nI si), .ref m13, .ref m14])), (m2, .inl (eI g, 49, .inl (fun j => nI (S j)))), (m8, .inl (eI g, 12, .inl (fun j => nI (rw_ j))))]) 0 0 := by
  refine ctI (cc := cX5_isAllSo) (maxL := 3) (ret := (some .boolean)) (by decide) rfl (Nat.le_of_ble_eq_true rfl) ?_
  intro p_ e_ s_ m_ bl_ mt_ cd_ A ls F hnm hP hD hS hl
  obtain ⟨hx, hb, hml, hown, hts, hK, hX, hA, hrt_, hlocks⟩ := id F
  have hl : lv_has ls 3 [(0, .ref m0)] := hl
  obtain ⟨hw40, ⟨h41a, h41b⟩, ⟨h42a, h42b⟩, h43, h44, h45, h46, h47, h48⟩ := id hO
  have hok1 := hok.1
  have hok2 := fun k hk => cdR_use (hok.2 k hk)
  have ht9 := tlS_9 hO
  refine lv_iconst (v := (nI 1)) hx hb dX5_isAllSo_0 (by decide) ?_
  refine lv_istore_n (lv' := [(1, .int (nI 1)), (0, .ref m0)]) hx hb dX5_isAllSo_1 rfl hl (by decide) rfl (fun ls hl => ?_)
  refine lv_iconst (v := (nI 0)) hx hb dX5_isAllSo_2 (by decide) ?_
  refine lv_istore_n (lv' := [(2, .int (nI 0)), (1, .int (nI 1)), (0, .ref m0)]) hx hb dX5_isAllSo_3 rfl hl (by decide) rfl (fun ls hl => ?_)
  refine xlo (σ := Nat × Nat) 3 (fun xz_ => (fun (i : Nat) (z : Nat) => [(0, .ref m0), (1, .int (nI z)), (2, .int (nI i))]) xz_.1 xz_.2) (fun xz_ => (fun (i : Nat) (z : Nat) => [(m0, .inr (5, [.ref m1, .ref m2, .ref m3, .int (nI kp), .ref m4, .ref m5, .ref m6, .ref m7, .ref m8, .int (nI rn), .ref m9, .int (nI tn), .int (nI ia), .int (nI wl), .ref m10, .ref m11, .ref m12, .int (nI si), .ref m13, .ref m14])), (m2, .inl (eI g, 49, .inl (fun j => nI (S j)))), (m8, .inl (eI g, 12, .inl (fun j => nI (rw_ j))))]) xz_.1 xz_.2) (fun xz_ => (fun (i : Nat) (z : Nat) => (z = if toldR (tlS S) rw_ i then 1 else 0) ∧ i % 3 = 0 ∧ i ≤ rn ∧ z ≤ 1) xz_.1 xz_.2) (fun xz_ => (fun (i : Nat) (z : Nat) => rn - i) xz_.1 xz_.2) (fun xz_ hI ih4 H locs ls hP hD hS hl => ?_) (0, 1) (show (1 = if toldR (tlS S) rw_ 0 then 1 else 0) ∧ 0 % 3 = 0 ∧ 0 ≤ rn ∧ 1 ≤ 1 from (⟨(if_pos (fun j hj => absurd hj (Nat.not_lt_zero _))).symm, by omega, by omega, by omega⟩)) hP hD hS (lv_sub hl [2, 1, 0] rfl)
  obtain ⟨i, z⟩ := xz_
  have hP : va_P (eD g) vwCl [(m0, .inr (5, [.ref m1, .ref m2, .ref m3, .int (nI kp), .ref m4, .ref m5, .ref m6, .ref m7, .ref m8, .int (nI rn), .ref m9, .int (nI tn), .int (nI ia), .int (nI wl), .ref m10, .ref m11, .ref m12, .int (nI si), .ref m13, .ref m14])), (m2, .inl (eI g, 49, .inl (fun j => nI (S j)))), (m8, .inl (eI g, 12, .inl (fun j => nI (rw_ j))))] H := hP
  have hD : va_D A [(m0, .inr (5, [.ref m1, .ref m2, .ref m3, .int (nI kp), .ref m4, .ref m5, .ref m6, .ref m7, .ref m8, .int (nI rn), .ref m9, .int (nI tn), .int (nI ia), .int (nI wl), .ref m10, .ref m11, .ref m12, .int (nI si), .ref m13, .ref m14])), (m2, .inl (eI g, 49, .inl (fun j => nI (S j)))), (m8, .inl (eI g, 12, .inl (fun j => nI (rw_ j))))] := hD
  have hl : lv_has ls 3 [(0, .ref m0), (1, .int (nI z)), (2, .int (nI i))] := hl
  have hI4 : (z = if toldR (tlS S) rw_ i then 1 else 0) ∧ i % 3 = 0 ∧ i ≤ rn ∧ z ≤ 1 := hI
  clear hI
  obtain ⟨hz0, hi3, hi2, hz1⟩ := id hI4
  refine lv_iload_n hx hb dX5_isAllSo_4 rfl (lv_at hl 2 rfl) ?_
  refine lv_aload_n hx hb dX5_isAllSo_5 rfl (lv_at hl 0 rfl) ?_
  refine xget F hP inX5_isAllSo_X5 0 rfl rfl 9 (by decide) lkX5_isAllSo_1 rfl dX5_isAllSo_6 ?_
  refine xge (tgt := 57) hx hb dX5_isAllSo_9 (by decide) (by omega) (by omega) (fun c9 => ?_) (fun c9 => ?_)
  · skip
    rcases (show z = 0 ∨ z = 1 by omega) with hz | hz
    · subst hz
      have hl : lv_has ls 3 [(0, .ref m0), (1, .int (nI 0)), (2, .int (nI i))] := hl
      refine lv_iload_n hx hb dX5_isAllSo_57 rfl (lv_at hl 1 rfl) ?_
      exact rtZ F hP hD hS dX5_isAllSo_58 (rfl) (⟨by rw [show rn = i by omega, ← hz0], rfl⟩)
    · subst hz
      have hl : lv_has ls 3 [(0, .ref m0), (1, .int (nI 1)), (2, .int (nI i))] := hl
      refine lv_iload_n hx hb dX5_isAllSo_57 rfl (lv_at hl 1 rfl) ?_
      exact rtZ F hP hD hS dX5_isAllSo_58 (rfl) (⟨by rw [show rn = i by omega, ← hz0], rfl⟩)
  · skip
    refine lv_iload_n hx hb dX5_isAllSo_12 rfl (lv_at hl 1 rfl) ?_
    refine zeq (tgt := 49) hx hb dX5_isAllSo_13 (by decide) (by omega) (fun c13 => ?_) (fun c13 => ?_)
    · skip
      refine lv_iconst (v := (nI 0)) hx hb dX5_isAllSo_49 (by decide) ?_
      refine lv_istore_n (lv' := [(1, .int (nI 0)), (0, .ref m0), (2, .int (nI i))]) hx hb dX5_isAllSo_50 rfl hl (by decide) rfl (fun ls hl => ?_)
      refine lv_iinc (v := (nI (i + 3))) (lv' := [(2, .int (nI (i + 3))), (1, .int (nI 0)), (0, .ref m0)]) hx hb dX5_isAllSo_51 hl (k := 2) rfl (iincP i 3) (by decide) rfl (fun ls hl => ?_)
      refine lv_goto (tgt := 4) hx hb dX5_isAllSo_54 (by decide) ?_
      exact ih4 (i + 3, 0) (show (0 = if toldR (tlS S) rw_ (i + 3) then 1 else 0) ∧ (i + 3) % 3 = 0 ∧ (i + 3) ≤ rn ∧ 0 ≤ 1 from (⟨(if_neg (fun q => by rw [if_pos (fun j hj h3 => q j (by omega) h3)] at hz0; omega)).symm, by omega, by omega, by omega⟩)) (show rn - (i + 3) < rn - i from (by omega)) _ _ _ hP hD hS (lv_sub hl [2, 1, 0] rfl)
    · skip
      refine lv_aload_n hx hb dX5_isAllSo_16 rfl (lv_at hl 0 rfl) ?_
      refine lv_aload_n hx hb dX5_isAllSo_17 rfl (lv_at hl 0 rfl) ?_
      refine xget F hP inX5_isAllSo_X5 0 rfl rfl 8 (by decide) lkX5_isAllSo_2 rfl dX5_isAllSo_18 ?_
      refine lv_iload_n hx hb dX5_isAllSo_21 rfl (lv_at hl 2 rfl) ?_
      refine xald F hP 2 (v := (nI (rw_ i))) rfl (by omega) (by omega) rfl dX5_isAllSo_22 ?_
      have hbd1 := hrw (i)
      refine lv_aload_n hx hb dX5_isAllSo_23 rfl (lv_at hl 0 rfl) ?_
      refine xget F hP inX5_isAllSo_X5 0 rfl rfl 8 (by decide) lkX5_isAllSo_2 rfl dX5_isAllSo_24 ?_
      refine lv_iload_n hx hb dX5_isAllSo_27 rfl (lv_at hl 2 rfl) ?_
      refine lv_iconst (v := (nI 1)) hx hb dX5_isAllSo_28 (by decide) ?_
      refine xadd hx hb dX5_isAllSo_29 ?_
      refine xald F hP 2 (v := (nI (rw_ (i + 1)))) rfl (by omega) (by omega) rfl dX5_isAllSo_30 ?_
      have hbd2 := hrw (i + 1)
      refine cVI (As := [.int (nI (rw_ i)), .int (nI (rw_ (i + 1)))]) (rest := []) F (c_X5_tells l g m0 m1 m2 m3 m4 m5 m6 m7 m8 m9 m10 m11 m12 m13 m14 kp rn tn ia wl si S (rw_ i) (rw_ (i + 1)) (hO) (by have := hok2 i (by omega); omega) (by have := hok2 (i + 1) (by omega); omega)) kX5_tells rfl gX5_isAllSo_X5_tells rfl rfl ⟨Nat.le_of_ble_eq_true rfl, Nat.le_of_ble_eq_true rfl⟩ hP hD hS [0, 1] [2] rfl rfl 0 rfl rfl hl.1 rfl rfl (Nat.le_of_ble_eq_true rfl) dX5_isAllSo_31 ⟨Nat.le_of_ble_eq_true rfl, Nat.le_of_ble_eq_true rfl⟩ (fun rz w1 H locs hpo hP hD hS => ?_)
      obtain ⟨rfl, rfl⟩ := hpo
      obtain ⟨hP, hD⟩ := nx (ws' := [(m0, .inr (5, [.ref m1, .ref m2, .ref m3, .int (nI kp), .ref m4, .ref m5, .ref m6, .ref m7, .ref m8, .int (nI rn), .ref m9, .int (nI tn), .int (nI ia), .int (nI wl), .ref m10, .ref m11, .ref m12, .int (nI si), .ref m13, .ref m14])), (m2, .inl (eI g, 49, .inl (fun j => nI (S j)))), (m8, .inl (eI g, 12, .inl (fun j => nI (rw_ j))))]) hP hD [1, 2, 0] (ndB_ok _ rfl) rfl
      have ht9i := ht9 (rw_ i) (rw_ (i + 1))
      refine lv_aload_n hx hb dX5_isAllSo_34 rfl (lv_at hl 0 rfl) ?_
      refine xget F hP inX5_isAllSo_X5 0 rfl rfl 8 (by decide) lkX5_isAllSo_2 rfl dX5_isAllSo_35 ?_
      refine lv_iload_n hx hb dX5_isAllSo_38 rfl (lv_at hl 2 rfl) ?_
      refine lv_iconst (v := (nI 2)) hx hb dX5_isAllSo_39 (by decide) ?_
      refine xadd hx hb dX5_isAllSo_40 ?_
      refine xald F hP 2 (v := (nI (rw_ (i + 2)))) rfl (by omega) (by omega) rfl dX5_isAllSo_41 ?_
      have hbd4 := hrw (i + 2)
      refine xne (tgt := 49) hx hb dX5_isAllSo_42 (by decide) (by omega) (by omega) (fun c42 => ?_) (fun c42 => ?_)
      · skip
        refine lv_iconst (v := (nI 0)) hx hb dX5_isAllSo_49 (by decide) ?_
        refine lv_istore_n (lv' := [(1, .int (nI 0)), (0, .ref m0), (2, .int (nI i))]) hx hb dX5_isAllSo_50 rfl hl (by decide) rfl (fun ls hl => ?_)
        refine lv_iinc (v := (nI (i + 3))) (lv' := [(2, .int (nI (i + 3))), (1, .int (nI 0)), (0, .ref m0)]) hx hb dX5_isAllSo_51 hl (k := 2) rfl (iincP i 3) (by decide) rfl (fun ls hl => ?_)
        refine lv_goto (tgt := 4) hx hb dX5_isAllSo_54 (by decide) ?_
        exact ih4 (i + 3, 0) (show (0 = if toldR (tlS S) rw_ (i + 3) then 1 else 0) ∧ (i + 3) % 3 = 0 ∧ (i + 3) ≤ rn ∧ 0 ≤ 1 from (⟨(if_neg (fun q => c42 (q i (by omega) hi3))).symm, by omega, by omega, by omega⟩)) (show rn - (i + 3) < rn - i from (by omega)) _ _ _ hP hD hS (lv_sub hl [2, 1, 0] rfl)
      · skip
        refine lv_iconst (v := (nI 1)) hx hb dX5_isAllSo_45 (by decide) ?_
        refine lv_goto (tgt := 50) hx hb dX5_isAllSo_46 (by decide) ?_
        refine lv_istore_n (lv' := [(1, .int (nI 1)), (0, .ref m0), (2, .int (nI i))]) hx hb dX5_isAllSo_50 rfl hl (by decide) rfl (fun ls hl => ?_)
        refine lv_iinc (v := (nI (i + 3))) (lv' := [(2, .int (nI (i + 3))), (1, .int (nI 1)), (0, .ref m0)]) hx hb dX5_isAllSo_51 hl (k := 2) rfl (iincP i 3) (by decide) rfl (fun ls hl => ?_)
        refine lv_goto (tgt := 4) hx hb dX5_isAllSo_54 (by decide) ?_
        exact ih4 (i + 3, 1) (show (1 = if toldR (tlS S) rw_ (i + 3) then 1 else 0) ∧ (i + 3) % 3 = 0 ∧ (i + 3) ≤ rn ∧ 1 ≤ 1 from (⟨(if_pos (tr_3 (Classical.byContradiction (fun q => by rw [if_neg q] at hz0; omega)) hi3 c42)).symm, by omega, by omega, by omega⟩)) (show rn - (i + 3) < rn - i from (by omega)) _ _ _ hP hD hS (lv_sub hl [2, 1, 0] rfl)

theorem lkX4_whose_1 : Cond.fieldLink RX4 90 "StripInFiveSteps" "GREATEST" "[I" ∈ wsX4_whose := List.mem_of_getElem? (i := 1) rfl
theorem inX4_whose_X4 : ∀ w ∈ u_ws RX4 TX4 10, w ∈ wsX4_whose := fun _ h => (List.mem_cons_of_mem _ (List.mem_append_left _ (List.mem_append_left _ (List.mem_append_right _ h))))
theorem lkX4_whose_2 : Cond.fieldLink RX4 10 "StripInFiveSteps" "now" "LStripInFiveSteps$Shed;" ∈ wsX4_whose := List.mem_of_getElem? (i := 2) rfl
theorem inX4_whose_X0 : ∀ w ∈ u_ws RX0 TX0 5, w ∈ wsX4_whose := fun _ h => (List.mem_cons_of_mem _ (List.mem_append_left _ (List.mem_append_right _ h)))
theorem lkX4_whose_3 : Cond.fieldLink RX4 105 "StripInFiveSteps$Shed" "eyeKind" "I" ∈ wsX4_whose := List.mem_of_getElem? (i := 3) rfl
theorem lkX4_whose_4 : Cond.fieldLink RX4 93 "StripInFiveSteps$Shed" "numbers" "[I" ∈ wsX4_whose := List.mem_of_getElem? (i := 4) rfl
theorem kX4_whose : Cal yX4_whose wsX4_whose cX4_whose 7 (some .int) 1 := ⟨⟨_, rfl⟩, by decide +kernel⟩
set_option maxHeartbeats 1000000 in
set_option maxRecDepth 100000 in
theorem c_X4_whose (l : Launch) (g : EE) (x0 : Nat) (h0 : Nat) (d0 : Nat) (k0 : Nat) (b0 : Nat) (a0 : Nat) (t0 : Nat) (r0 : Nat) (r1 : Nat) (ik : Nat) (rn : Nat) (h1 : Nat) (h2 : Nat) (B : Nat → Nat) (sk : Nat) (ek : Nat) (tr : Nat) (b1 : Nat) (q : Nat → Nat) (n : Nat) (rw_ : Nat → Nat) (rf : Nat → Int32) (x : Int32) (hB : okB B) (hsk : sk ≤ 3) (hek : ek ≤ 4) (hrn : rn ≤ 12) (hrw : ∀ j, rw_ j ≤ 99) : CI l yX4_whose wsX4_whose ({ frames := 4, cells := 0, slots := 0, locals := 95 }) g [.ref x0, .int x] [(x0, .inr (4, [.ref h0, .ref d0, .ref k0, .int (nI ik), .ref b0, .ref a0, .ref t0, .ref r0, .int (nI rn), .ref r1])), (h0, .inr (0, [.ref h1, .ref h2, .int (nI sk), .int (nI ek), .int (nI tr)])), (h2, .inl (eI g, 5, .inl (fun j => nI (B j)))), (b0, .inr (1, [.ref b1, .int (nI n)])), (b1, .inl (eI g, 7, .inl (fun j => nI (q j)))), (r0, .inl (eI g, 12, .inl (fun j => nI (rw_ j)))), (r1, .inl (eI g, 7, .inl rf))] (fun (rz : Int32) (wz : va_W) => ∃ q9 : Nat → Nat, ∃ n9 : Nat, rz = (rsp (if x.toInt < 0 ∨ 1 < x.toInt then 2 else if okR rw_ rn then 0 else 3) (if x.toInt = 0 then bitsI (fun n => decide (toldR (fun v r => tl (B 0) (B 1) (B 2) (sk) n v r) rw_ rn)) 5 else bitsI (fun n => decide (toldR (fun v r => tl (B 0) (B 1) n (sk) (ek) v r) rw_ rn)) 10)) ∧ wz = [(x0, .inr (4, [.ref h0, .ref d0, .ref k0, .int (nI ik), .ref b0, .ref a0, .ref t0, .ref r0, .int (nI rn), .ref r1])), (h0, .inr (0, [.ref h1, .ref h2, .int (nI sk), .int (nI ek), .int (nI tr)])), (h2, .inl (eI g, 5, .inl (fun j => nI (B j)))), (b0, .inr (1, [.ref b1, .int (nI n9)])), (b1, .inl (eI g, 7, .inl (fun j => nI (q9 j)))), (r0, .inl (eI g, 12, .inl (fun j => nI (rw_ j)))), (r1, .inl (eI g, 7, .inl (bump rf (if x.toInt < 0 ∨ 1 < x.toInt then 2 else if okR rw_ rn then 0 else 3))))]) 0 0 := by
  refine ctI (cc := cX4_whose) (maxL := 7) (ret := (some .int)) (by decide) rfl (Nat.le_of_ble_eq_true rfl) ?_
  intro p_ e_ s_ m_ bl_ mt_ cd_ A ls F hnm hP hD hS hl
  obtain ⟨hx, hb, hml, hown, hts, hK, hX, hA, hrt_, hlocks⟩ := id F
  have hl : lv_has ls 7 [(0, .ref x0), (1, .int x)] := hl
  obtain ⟨hb0, hb1, hb2, hb3, hb4, hb5⟩ := okB_b hB
  refine lv_iload_n hx hb dX4_whose_0 rfl (lv_at hl 1 rfl) ?_
  refine wlt (tgt := 9) hx hb dX4_whose_1 (by decide) (fun c1 => ?_) (fun c1 => ?_)
  · skip
    refine lv_aload_n hx hb dX4_whose_9 rfl (lv_at hl 0 rfl) ?_
    refine lv_bipush (v := (-2)) hx hb dX4_whose_10 (by decide) ?_
    refine cVI (As := [.int (-2)]) (rest := []) F (c_X4_refuse l g x0 h0 d0 k0 b0 a0 t0 r0 r1 ik rn rf (-2) 2 (by decide) (by omega) (by omega)) kX4_refuse rfl gX4_whose_X4_refuse rfl rfl ⟨Nat.le_of_ble_eq_true rfl, Nat.le_of_ble_eq_true rfl⟩ hP hD hS [0, 6] [1, 2, 3, 4, 5] rfl rfl 0 rfl rfl hl.1 rfl rfl (Nat.le_of_ble_eq_true rfl) dX4_whose_12 ⟨Nat.le_of_ble_eq_true rfl, Nat.le_of_ble_eq_true rfl⟩ (fun rz w1 H locs hpo hP hD hS => ?_)
    obtain ⟨rfl, rfl⟩ := hpo
    obtain ⟨hP, hD⟩ := nx (ws' := [(x0, .inr (4, [.ref h0, .ref d0, .ref k0, .int (nI ik), .ref b0, .ref a0, .ref t0, .ref r0, .int (nI rn), .ref r1])), (h0, .inr (0, [.ref h1, .ref h2, .int (nI sk), .int (nI ek), .int (nI tr)])), (h2, .inl (eI g, 5, .inl (fun j => nI (B j)))), (b0, .inr (1, [.ref b1, .int (nI n)])), (b1, .inl (eI g, 7, .inl (fun j => nI (q j)))), (r0, .inl (eI g, 12, .inl (fun j => nI (rw_ j)))), (r1, .inl (eI g, 7, .inl (bump rf 2)))]) hP hD [5, 0, 1, 2, 3, 4, 6] (ndB_ok _ rfl) rfl
    exact rtI F hP hD hS dX4_whose_15 (by rw [show (if x.toInt < 0 ∨ 1 < x.toInt then 2 else if okR rw_ rn then 0 else 3) = 2 from (by rw [if_pos (by omega)])]; exact ⟨_, _, by rfl, rfl⟩)
  · skip
    refine lv_iload_n hx hb dX4_whose_4 rfl (lv_at hl 1 rfl) ?_
    refine lv_iconst (v := (nI 1)) hx hb dX4_whose_5 (by decide) ?_
    refine yle (tgt := 16) hx hb dX4_whose_6 (by decide) (by omega) (fun c6 => ?_) (fun c6 => ?_)
    · skip
      obtain ⟨k, hk_, rfl⟩ := natOf (x := x) (by omega)
      rw [nI_tI hk_] at c1
      rw [nI_tI hk_] at c6
      refine lv_aload_n hx hb dX4_whose_16 rfl (lv_at hl 0 rfl) ?_
      refine cVI (As := []) (rest := []) F (c_X4_isRowOfThrees l g x0 h0 d0 k0 b0 a0 t0 r0 r1 ik rn rw_ (hrn) (hrw)) kX4_isRowOfThrees rfl gX4_whose_X4_isRowOfThrees rfl rfl ⟨Nat.le_of_ble_eq_true rfl, Nat.le_of_ble_eq_true rfl⟩ hP hD hS [0, 5] [1, 2, 3, 4, 6] rfl rfl 0 rfl rfl hl.1 rfl rfl (Nat.le_of_ble_eq_true rfl) dX4_whose_17 ⟨Nat.le_of_ble_eq_true rfl, Nat.le_of_ble_eq_true rfl⟩ (fun rz w1 H locs hpo hP hD hS => ?_)
      obtain ⟨rfl, rfl⟩ := hpo
      obtain ⟨hP, hD⟩ := nx (ws' := [(x0, .inr (4, [.ref h0, .ref d0, .ref k0, .int (nI ik), .ref b0, .ref a0, .ref t0, .ref r0, .int (nI rn), .ref r1])), (h0, .inr (0, [.ref h1, .ref h2, .int (nI sk), .int (nI ek), .int (nI tr)])), (h2, .inl (eI g, 5, .inl (fun j => nI (B j)))), (b0, .inr (1, [.ref b1, .int (nI n)])), (b1, .inl (eI g, 7, .inl (fun j => nI (q j)))), (r0, .inl (eI g, 12, .inl (fun j => nI (rw_ j)))), (r1, .inl (eI g, 7, .inl rf))]) hP hD [5, 0, 1, 2, 3, 6, 4] (ndB_ok _ rfl) rfl
      refine bqne (tgt := 30) hx hb dX4_whose_20 (by decide) (fun c20 => ?_) (fun c20 => ?_)
      · skip
        have hok : okR rw_ rn := c20
        refine lv_iconst (v := (nI 0)) hx hb dX4_whose_30 (by decide) ?_
        refine lv_istore_n (lv' := [(2, .int (nI 0)), (0, .ref x0), (1, .int (nI k))]) hx hb dX4_whose_31 rfl hl (by decide) rfl (fun ls hl => ?_)
        refine lv_iload_n hx hb dX4_whose_32 rfl (lv_at hl 2 rfl) ?_
        refine zne (tgt := 40) hx hb dX4_whose_33 (by decide) (by omega) (fun c33 => ?_) (fun c33 => ?_)
        · skip
          refine xgG F hS lkX4_whose_1 dX4_whose_40 ?_
          refine lv_iconst (v := (nI 2)) hx hb dX4_whose_43 (by decide) ?_
          refine xtG F hS (by omega) dX4_whose_44 ?_
          have hbd2 := greatN_le 2
          refine lv_iconst (v := (nI 1)) hx hb dX4_whose_45 (by decide) ?_
          refine xadd hx hb dX4_whose_46 ?_
          refine sti (congrArg nI (show (greatN 2) + 1 = 10 from rfl)) ?_
          refine lv_istore_n (lv' := [(3, .int (nI 10)), (2, .int (nI 0)), (0, .ref x0), (1, .int (nI k))]) hx hb dX4_whose_47 rfl hl (by decide) rfl (fun ls hl => ?_)
          refine lv_iconst (v := (nI 0)) hx hb dX4_whose_48 (by decide) ?_
          refine lv_istore (lv' := [(4, .int (nI 0)), (3, .int (nI 10)), (2, .int (nI 0)), (0, .ref x0), (1, .int (nI k))]) hx hb dX4_whose_49 hl (by decide) rfl (fun ls hl => ?_)
          refine xlo (σ := Nat × Int32 × (Nat → Nat) × Nat) 7 (fun xz_ => (fun (i : Nat) (b : Int32) (qq : Nat → Nat) (nn : Nat) => [(0, .ref x0), (1, .int (nI k)), (2, .int b), (3, .int (nI 10)), (4, .int (nI i))]) xz_.1 xz_.2.1 xz_.2.2.1 xz_.2.2.2) (fun xz_ => (fun (i : Nat) (b : Int32) (qq : Nat → Nat) (nn : Nat) => [(x0, .inr (4, [.ref h0, .ref d0, .ref k0, .int (nI ik), .ref b0, .ref a0, .ref t0, .ref r0, .int (nI rn), .ref r1])), (h0, .inr (0, [.ref h1, .ref h2, .int (nI sk), .int (nI ek), .int (nI tr)])), (h2, .inl (eI g, 5, .inl (fun j => nI (B j)))), (b0, .inr (1, [.ref b1, .int (nI nn)])), (b1, .inl (eI g, 7, .inl (fun j => nI (qq j)))), (r0, .inl (eI g, 12, .inl (fun j => nI (rw_ j)))), (r1, .inl (eI g, 7, .inl rf))]) xz_.1 xz_.2.1 xz_.2.2.1 xz_.2.2.2) (fun xz_ => (fun (i : Nat) (b : Int32) (qq : Nat → Nat) (nn : Nat) => b = bitsI (fun n => decide (toldR (fun v r => tl (B 0) (B 1) n (sk) (ek) v r) rw_ rn)) i ∧ i ≤ 10) xz_.1 xz_.2.1 xz_.2.2.1 xz_.2.2.2) (fun xz_ => (fun (i : Nat) (b : Int32) (qq : Nat → Nat) (nn : Nat) => 10 - i) xz_.1 xz_.2.1 xz_.2.2.1 xz_.2.2.2) (fun xz_ hI ih51 H locs ls hP hD hS hl => ?_) (0, (nI 0), q, n) (show (nI 0) = bitsI (fun n => decide (toldR (fun v r => tl (B 0) (B 1) n (sk) (ek) v r) rw_ rn)) 0 ∧ 0 ≤ 10 from (⟨rfl, by omega⟩)) hP hD hS (lv_sub hl [3, 4, 2, 1, 0] rfl)
          obtain ⟨i, b, qq, nn⟩ := xz_
          have hP : va_P (eD g) vwCl [(x0, .inr (4, [.ref h0, .ref d0, .ref k0, .int (nI ik), .ref b0, .ref a0, .ref t0, .ref r0, .int (nI rn), .ref r1])), (h0, .inr (0, [.ref h1, .ref h2, .int (nI sk), .int (nI ek), .int (nI tr)])), (h2, .inl (eI g, 5, .inl (fun j => nI (B j)))), (b0, .inr (1, [.ref b1, .int (nI nn)])), (b1, .inl (eI g, 7, .inl (fun j => nI (qq j)))), (r0, .inl (eI g, 12, .inl (fun j => nI (rw_ j)))), (r1, .inl (eI g, 7, .inl rf))] H := hP
          have hD : va_D A [(x0, .inr (4, [.ref h0, .ref d0, .ref k0, .int (nI ik), .ref b0, .ref a0, .ref t0, .ref r0, .int (nI rn), .ref r1])), (h0, .inr (0, [.ref h1, .ref h2, .int (nI sk), .int (nI ek), .int (nI tr)])), (h2, .inl (eI g, 5, .inl (fun j => nI (B j)))), (b0, .inr (1, [.ref b1, .int (nI nn)])), (b1, .inl (eI g, 7, .inl (fun j => nI (qq j)))), (r0, .inl (eI g, 12, .inl (fun j => nI (rw_ j)))), (r1, .inl (eI g, 7, .inl rf))] := hD
          have hl : lv_has ls 7 [(0, .ref x0), (1, .int (nI k)), (2, .int b), (3, .int (nI 10)), (4, .int (nI i))] := hl
          have hI51 : b = bitsI (fun n => decide (toldR (fun v r => tl (B 0) (B 1) n (sk) (ek) v r) rw_ rn)) i ∧ i ≤ 10 := hI
          clear hI
          obtain ⟨hb0, hi2⟩ := id hI51
          refine lv_iload hx hb dX4_whose_51 (lv_at hl 4 rfl) ?_
          refine lv_iload_n hx hb dX4_whose_53 rfl (lv_at hl 3 rfl) ?_
          refine xge (tgt := 119) hx hb dX4_whose_54 (by decide) (by omega) (by omega) (fun c54 => ?_) (fun c54 => ?_)
          · skip
            refine lv_iload_n hx hb dX4_whose_119 rfl (lv_at hl 2 rfl) ?_
            exact rtI F hP hD hS dX4_whose_120 (by rw [show (if (nI k).toInt < 0 ∨ 1 < (nI k).toInt then 2 else if okR rw_ rn then 0 else 3) = 0 from (by (try simp only [nI_tI hk_]); rw [if_neg (by omega), if_pos hok])]; exact ⟨_, _, by rw [rsp_0, nI_tI hk_, if_neg (by omega), hb0, show i = 10 by omega], rfl⟩)
          · skip
            refine lv_iload_n hx hb dX4_whose_57 rfl (lv_at hl 1 rfl) ?_
            refine zne (tgt := 66) hx hb dX4_whose_58 (by decide) (by omega) (fun c58 => ?_) (fun c58 => ?_)
            · skip
              refine lv_aload_n hx hb dX4_whose_66 rfl (lv_at hl 0 rfl) ?_
              refine xget F hP inX4_whose_X4 0 rfl rfl 0 (by decide) lkX4_whose_2 rfl dX4_whose_67 ?_
              refine xget F hP inX4_whose_X0 1 rfl rfl 3 (by decide) lkX4_whose_3 rfl dX4_whose_70 ?_
              refine lv_istore (lv' := [(5, .int (nI ek)), (0, .ref x0), (1, .int (nI k)), (2, .int b), (3, .int (nI 10)), (4, .int (nI i))]) hx hb dX4_whose_73 hl (by decide) rfl (fun ls hl => ?_)
              refine lv_iload_n hx hb dX4_whose_75 rfl (lv_at hl 2 rfl) ?_
              refine zne (tgt := 91) hx hb dX4_whose_76 (by decide) (by omega) (fun c76 => ?_) (fun c76 => ?_)
              · skip
                refine lv_iload hx hb dX4_whose_91 (lv_at hl 5 rfl) ?_
                refine lv_istore (lv' := [(6, .int (nI i)), (5, .int (nI ek)), (0, .ref x0), (1, .int (nI k)), (2, .int b), (3, .int (nI 10)), (4, .int (nI i))]) hx hb dX4_whose_93 hl (by decide) rfl (fun ls hl => ?_)
                refine lv_aload_n hx hb dX4_whose_95 rfl (lv_at hl 2 rfl) ?_
                refine lv_iload hx hb dX4_whose_96 (lv_at hl 1 rfl) ?_
                refine lv_iload hx hb dX4_whose_98 (lv_at hl 0 rfl) ?_
                refine cVI (As := [.int (nI ek), .int (nI i)]) (rest := []) F (c_X4_rowIsToldBy l g x0 h0 d0 k0 b0 a0 t0 r0 r1 ik rn h1 h2 B sk ek tr b1 qq nn rw_ ek i (hB) (hsk) (by omega) (by omega) (hok) (hrn) (hrw)) kX4_rowIsToldBy rfl gX4_whose_X4_rowIsToldBy rfl rfl ⟨Nat.le_of_ble_eq_true rfl, Nat.le_of_ble_eq_true rfl⟩ hP hD hS [0, 1, 2, 3, 4, 5] [6] rfl rfl 0 rfl rfl hl.1 rfl rfl (Nat.le_of_ble_eq_true rfl) dX4_whose_100 ⟨Nat.le_of_ble_eq_true rfl, Nat.le_of_ble_eq_true rfl⟩ (fun rz w1 H locs hpo hP hD hS => ?_)
                obtain ⟨q9_4, n9_4, rfl, rfl⟩ := hpo
                obtain ⟨hP, hD⟩ := nx (ws' := [(x0, .inr (4, [.ref h0, .ref d0, .ref k0, .int (nI ik), .ref b0, .ref a0, .ref t0, .ref r0, .int (nI rn), .ref r1])), (h0, .inr (0, [.ref h1, .ref h2, .int (nI sk), .int (nI ek), .int (nI tr)])), (h2, .inl (eI g, 5, .inl (fun j => nI (B j)))), (b0, .inr (1, [.ref b1, .int (nI n9_4)])), (b1, .inl (eI g, 7, .inl (fun j => nI (q9_4 j)))), (r0, .inl (eI g, 12, .inl (fun j => nI (rw_ j)))), (r1, .inl (eI g, 7, .inl rf))]) hP hD [1, 2, 3, 4, 5, 6, 0] (ndB_ok _ rfl) rfl
                refine bqeq (tgt := 113) hx hb dX4_whose_103 (by decide) (fun c103 => ?_) (fun c103 => ?_)
                · skip
                  refine lv_iinc (v := (nI (i + 1))) (lv' := [(4, .int (nI (i + 1))), (6, .int (nI i)), (5, .int (nI ek)), (0, .ref x0), (1, .int (nI k)), (2, .int b), (3, .int (nI 10))]) hx hb dX4_whose_113 hl (k := 6) rfl (iincP i 1) (by decide) rfl (fun ls hl => ?_)
                  refine lv_goto (tgt := 51) hx hb dX4_whose_116 (by decide) ?_
                  exact ih51 (i + 1, b, q9_4, n9_4) (show b = bitsI (fun n => decide (toldR (fun v r => tl (B 0) (B 1) n (sk) (ek) v r) rw_ rn)) (i + 1) ∧ (i + 1) ≤ 10 from (⟨bits_off (P := (fun n => decide (toldR (fun v r => tl (B 0) (B 1) n (sk) (ek) v r) rw_ rn))) hb0 (fun q => c103 (of_decide_eq_true q)), by omega⟩)) (show 10 - (i + 1) < 10 - i from (by omega)) _ _ _ hP hD hS (lv_sub hl [3, 4, 5, 6, 0] rfl)
                · skip
                  refine lv_iload_n hx hb dX4_whose_106 rfl (lv_at hl 4 rfl) ?_
                  refine lv_iconst (v := (nI 1)) hx hb dX4_whose_107 (by decide) ?_
                  refine lv_iload hx hb dX4_whose_108 (lv_at hl 6 rfl) ?_
                  refine lv_ishl hx hb dX4_whose_110 ?_
                  refine lv_ior hx hb dX4_whose_111 ?_
                  refine lv_istore_n (lv' := [(2, .int (b ||| ((nI 1) <<< ((nI i) &&& 31)))), (6, .int (nI i)), (5, .int (nI ek)), (0, .ref x0), (1, .int (nI k)), (3, .int (nI 10)), (4, .int (nI i))]) hx hb dX4_whose_112 rfl hl (by decide) rfl (fun ls hl => ?_)
                  refine lv_iinc (v := (nI (i + 1))) (lv' := [(4, .int (nI (i + 1))), (2, .int (b ||| ((nI 1) <<< ((nI i) &&& 31)))), (6, .int (nI i)), (5, .int (nI ek)), (0, .ref x0), (1, .int (nI k)), (3, .int (nI 10))]) hx hb dX4_whose_113 hl (k := 6) rfl (iincP i 1) (by decide) rfl (fun ls hl => ?_)
                  refine lv_goto (tgt := 51) hx hb dX4_whose_116 (by decide) ?_
                  exact ih51 (i + 1, (b ||| ((nI 1) <<< ((nI i) &&& 31))), q9_4, n9_4) (show (b ||| ((nI 1) <<< ((nI i) &&& 31))) = bitsI (fun n => decide (toldR (fun v r => tl (B 0) (B 1) n (sk) (ek) v r) rw_ rn)) (i + 1) ∧ (i + 1) ≤ 10 from (⟨bits_on (P := (fun n => decide (toldR (fun v r => tl (B 0) (B 1) n (sk) (ek) v r) rw_ rn))) hb0 (decide_eq_true c103), by omega⟩)) (show 10 - (i + 1) < 10 - i from (by omega)) _ _ _ hP hD hS (lv_sub hl [4, 5, 1, 6, 0] rfl)
              · skip
                exfalso; omega
            · skip
              exfalso; omega
        · skip
          refine lv_iconst (v := (nI 5)) hx hb dX4_whose_36 (by decide) ?_
          refine lv_goto (tgt := 47) hx hb dX4_whose_37 (by decide) ?_
          refine lv_istore_n (lv' := [(3, .int (nI 5)), (2, .int (nI 0)), (0, .ref x0), (1, .int (nI k))]) hx hb dX4_whose_47 rfl hl (by decide) rfl (fun ls hl => ?_)
          refine lv_iconst (v := (nI 0)) hx hb dX4_whose_48 (by decide) ?_
          refine lv_istore (lv' := [(4, .int (nI 0)), (3, .int (nI 5)), (2, .int (nI 0)), (0, .ref x0), (1, .int (nI k))]) hx hb dX4_whose_49 hl (by decide) rfl (fun ls hl => ?_)
          refine xlo (σ := Nat × Int32 × (Nat → Nat) × Nat) 7 (fun xz_ => (fun (i : Nat) (b : Int32) (qq : Nat → Nat) (nn : Nat) => [(0, .ref x0), (1, .int (nI k)), (2, .int b), (3, .int (nI 5)), (4, .int (nI i))]) xz_.1 xz_.2.1 xz_.2.2.1 xz_.2.2.2) (fun xz_ => (fun (i : Nat) (b : Int32) (qq : Nat → Nat) (nn : Nat) => [(x0, .inr (4, [.ref h0, .ref d0, .ref k0, .int (nI ik), .ref b0, .ref a0, .ref t0, .ref r0, .int (nI rn), .ref r1])), (h0, .inr (0, [.ref h1, .ref h2, .int (nI sk), .int (nI ek), .int (nI tr)])), (h2, .inl (eI g, 5, .inl (fun j => nI (B j)))), (b0, .inr (1, [.ref b1, .int (nI nn)])), (b1, .inl (eI g, 7, .inl (fun j => nI (qq j)))), (r0, .inl (eI g, 12, .inl (fun j => nI (rw_ j)))), (r1, .inl (eI g, 7, .inl rf))]) xz_.1 xz_.2.1 xz_.2.2.1 xz_.2.2.2) (fun xz_ => (fun (i : Nat) (b : Int32) (qq : Nat → Nat) (nn : Nat) => b = bitsI (fun n => decide (toldR (fun v r => tl (B 0) (B 1) (B 2) (sk) n v r) rw_ rn)) i ∧ i ≤ 5) xz_.1 xz_.2.1 xz_.2.2.1 xz_.2.2.2) (fun xz_ => (fun (i : Nat) (b : Int32) (qq : Nat → Nat) (nn : Nat) => 5 - i) xz_.1 xz_.2.1 xz_.2.2.1 xz_.2.2.2) (fun xz_ hI ih51 H locs ls hP hD hS hl => ?_) (0, (nI 0), q, n) (show (nI 0) = bitsI (fun n => decide (toldR (fun v r => tl (B 0) (B 1) (B 2) (sk) n v r) rw_ rn)) 0 ∧ 0 ≤ 5 from (⟨rfl, by omega⟩)) hP hD hS (lv_sub hl [3, 4, 2, 1, 0] rfl)
          obtain ⟨i, b, qq, nn⟩ := xz_
          have hP : va_P (eD g) vwCl [(x0, .inr (4, [.ref h0, .ref d0, .ref k0, .int (nI ik), .ref b0, .ref a0, .ref t0, .ref r0, .int (nI rn), .ref r1])), (h0, .inr (0, [.ref h1, .ref h2, .int (nI sk), .int (nI ek), .int (nI tr)])), (h2, .inl (eI g, 5, .inl (fun j => nI (B j)))), (b0, .inr (1, [.ref b1, .int (nI nn)])), (b1, .inl (eI g, 7, .inl (fun j => nI (qq j)))), (r0, .inl (eI g, 12, .inl (fun j => nI (rw_ j)))), (r1, .inl (eI g, 7, .inl rf))] H := hP
          have hD : va_D A [(x0, .inr (4, [.ref h0, .ref d0, .ref k0, .int (nI ik), .ref b0, .ref a0, .ref t0, .ref r0, .int (nI rn), .ref r1])), (h0, .inr (0, [.ref h1, .ref h2, .int (nI sk), .int (nI ek), .int (nI tr)])), (h2, .inl (eI g, 5, .inl (fun j => nI (B j)))), (b0, .inr (1, [.ref b1, .int (nI nn)])), (b1, .inl (eI g, 7, .inl (fun j => nI (qq j)))), (r0, .inl (eI g, 12, .inl (fun j => nI (rw_ j)))), (r1, .inl (eI g, 7, .inl rf))] := hD
          have hl : lv_has ls 7 [(0, .ref x0), (1, .int (nI k)), (2, .int b), (3, .int (nI 5)), (4, .int (nI i))] := hl
          have hI51 : b = bitsI (fun n => decide (toldR (fun v r => tl (B 0) (B 1) (B 2) (sk) n v r) rw_ rn)) i ∧ i ≤ 5 := hI
          clear hI
          obtain ⟨hb0, hi2⟩ := id hI51
          refine lv_iload hx hb dX4_whose_51 (lv_at hl 4 rfl) ?_
          refine lv_iload_n hx hb dX4_whose_53 rfl (lv_at hl 3 rfl) ?_
          refine xge (tgt := 119) hx hb dX4_whose_54 (by decide) (by omega) (by omega) (fun c54 => ?_) (fun c54 => ?_)
          · skip
            refine lv_iload_n hx hb dX4_whose_119 rfl (lv_at hl 2 rfl) ?_
            exact rtI F hP hD hS dX4_whose_120 (by rw [show (if (nI k).toInt < 0 ∨ 1 < (nI k).toInt then 2 else if okR rw_ rn then 0 else 3) = 0 from (by (try simp only [nI_tI hk_]); rw [if_neg (by omega), if_pos hok])]; exact ⟨_, _, by rw [rsp_0, nI_tI hk_, if_pos (by omega), hb0, show i = 5 by omega], rfl⟩)
          · skip
            refine lv_iload_n hx hb dX4_whose_57 rfl (lv_at hl 1 rfl) ?_
            refine zne (tgt := 66) hx hb dX4_whose_58 (by decide) (by omega) (fun c58 => ?_) (fun c58 => ?_)
            · skip
              exfalso; omega
            · skip
              refine lv_iload hx hb dX4_whose_61 (lv_at hl 4 rfl) ?_
              refine lv_goto (tgt := 73) hx hb dX4_whose_63 (by decide) ?_
              refine lv_istore (lv' := [(5, .int (nI i)), (0, .ref x0), (1, .int (nI k)), (2, .int b), (3, .int (nI 5)), (4, .int (nI i))]) hx hb dX4_whose_73 hl (by decide) rfl (fun ls hl => ?_)
              refine lv_iload_n hx hb dX4_whose_75 rfl (lv_at hl 2 rfl) ?_
              refine zne (tgt := 91) hx hb dX4_whose_76 (by decide) (by omega) (fun c76 => ?_) (fun c76 => ?_)
              · skip
                exfalso; omega
              · skip
                refine lv_aload_n hx hb dX4_whose_79 rfl (lv_at hl 1 rfl) ?_
                refine xget F hP inX4_whose_X4 0 rfl rfl 0 (by decide) lkX4_whose_2 rfl dX4_whose_80 ?_
                refine xget F hP inX4_whose_X0 1 rfl rfl 1 (by decide) lkX4_whose_4 rfl dX4_whose_83 ?_
                refine lv_iconst (v := (nI 2)) hx hb dX4_whose_86 (by decide) ?_
                refine xald F hP 2 (v := (nI (B 2))) rfl (by omega) (by omega) rfl dX4_whose_87 ?_
                refine lv_goto (tgt := 93) hx hb dX4_whose_88 (by decide) ?_
                refine lv_istore (lv' := [(6, .int (nI (B 2))), (5, .int (nI i)), (0, .ref x0), (1, .int (nI k)), (2, .int b), (3, .int (nI 5)), (4, .int (nI i))]) hx hb dX4_whose_93 hl (by decide) rfl (fun ls hl => ?_)
                refine lv_aload_n hx hb dX4_whose_95 rfl (lv_at hl 2 rfl) ?_
                refine lv_iload hx hb dX4_whose_96 (lv_at hl 1 rfl) ?_
                refine lv_iload hx hb dX4_whose_98 (lv_at hl 0 rfl) ?_
                refine cVI (As := [.int (nI i), .int (nI (B 2))]) (rest := []) F (c_X4_rowIsToldBy l g x0 h0 d0 k0 b0 a0 t0 r0 r1 ik rn h1 h2 B sk ek tr b1 qq nn rw_ i (B 2) (hB) (hsk) (by omega) (by omega) (hok) (hrn) (hrw)) kX4_rowIsToldBy rfl gX4_whose_X4_rowIsToldBy rfl rfl ⟨Nat.le_of_ble_eq_true rfl, Nat.le_of_ble_eq_true rfl⟩ hP hD hS [0, 1, 2, 3, 4, 5] [6] rfl rfl 0 rfl rfl hl.1 rfl rfl (Nat.le_of_ble_eq_true rfl) dX4_whose_100 ⟨Nat.le_of_ble_eq_true rfl, Nat.le_of_ble_eq_true rfl⟩ (fun rz w1 H locs hpo hP hD hS => ?_)
                obtain ⟨q9_5, n9_5, rfl, rfl⟩ := hpo
                obtain ⟨hP, hD⟩ := nx (ws' := [(x0, .inr (4, [.ref h0, .ref d0, .ref k0, .int (nI ik), .ref b0, .ref a0, .ref t0, .ref r0, .int (nI rn), .ref r1])), (h0, .inr (0, [.ref h1, .ref h2, .int (nI sk), .int (nI ek), .int (nI tr)])), (h2, .inl (eI g, 5, .inl (fun j => nI (B j)))), (b0, .inr (1, [.ref b1, .int (nI n9_5)])), (b1, .inl (eI g, 7, .inl (fun j => nI (q9_5 j)))), (r0, .inl (eI g, 12, .inl (fun j => nI (rw_ j)))), (r1, .inl (eI g, 7, .inl rf))]) hP hD [1, 2, 3, 4, 5, 6, 0] (ndB_ok _ rfl) rfl
                refine bqeq (tgt := 113) hx hb dX4_whose_103 (by decide) (fun c103 => ?_) (fun c103 => ?_)
                · skip
                  refine lv_iinc (v := (nI (i + 1))) (lv' := [(4, .int (nI (i + 1))), (6, .int (nI (B 2))), (5, .int (nI i)), (0, .ref x0), (1, .int (nI k)), (2, .int b), (3, .int (nI 5))]) hx hb dX4_whose_113 hl (k := 6) rfl (iincP i 1) (by decide) rfl (fun ls hl => ?_)
                  refine lv_goto (tgt := 51) hx hb dX4_whose_116 (by decide) ?_
                  exact ih51 (i + 1, b, q9_5, n9_5) (show b = bitsI (fun n => decide (toldR (fun v r => tl (B 0) (B 1) (B 2) (sk) n v r) rw_ rn)) (i + 1) ∧ (i + 1) ≤ 5 from (⟨bits_off (P := (fun n => decide (toldR (fun v r => tl (B 0) (B 1) (B 2) (sk) n v r) rw_ rn))) hb0 (fun q => c103 (of_decide_eq_true q)), by omega⟩)) (show 5 - (i + 1) < 5 - i from (by omega)) _ _ _ hP hD hS (lv_sub hl [3, 4, 5, 6, 0] rfl)
                · skip
                  refine lv_iload_n hx hb dX4_whose_106 rfl (lv_at hl 4 rfl) ?_
                  refine lv_iconst (v := (nI 1)) hx hb dX4_whose_107 (by decide) ?_
                  refine lv_iload hx hb dX4_whose_108 (lv_at hl 6 rfl) ?_
                  refine lv_ishl hx hb dX4_whose_110 ?_
                  refine lv_ior hx hb dX4_whose_111 ?_
                  refine lv_istore_n (lv' := [(2, .int (b ||| ((nI 1) <<< ((nI i) &&& 31)))), (6, .int (nI (B 2))), (5, .int (nI i)), (0, .ref x0), (1, .int (nI k)), (3, .int (nI 5)), (4, .int (nI i))]) hx hb dX4_whose_112 rfl hl (by decide) rfl (fun ls hl => ?_)
                  refine lv_iinc (v := (nI (i + 1))) (lv' := [(4, .int (nI (i + 1))), (2, .int (b ||| ((nI 1) <<< ((nI i) &&& 31)))), (6, .int (nI (B 2))), (5, .int (nI i)), (0, .ref x0), (1, .int (nI k)), (3, .int (nI 5))]) hx hb dX4_whose_113 hl (k := 6) rfl (iincP i 1) (by decide) rfl (fun ls hl => ?_)
                  refine lv_goto (tgt := 51) hx hb dX4_whose_116 (by decide) ?_
                  exact ih51 (i + 1, (b ||| ((nI 1) <<< ((nI i) &&& 31))), q9_5, n9_5) (show (b ||| ((nI 1) <<< ((nI i) &&& 31))) = bitsI (fun n => decide (toldR (fun v r => tl (B 0) (B 1) (B 2) (sk) n v r) rw_ rn)) (i + 1) ∧ (i + 1) ≤ 5 from (⟨bits_on (P := (fun n => decide (toldR (fun v r => tl (B 0) (B 1) (B 2) (sk) n v r) rw_ rn))) hb0 (decide_eq_true c103), by omega⟩)) (show 5 - (i + 1) < 5 - i from (by omega)) _ _ _ hP hD hS (lv_sub hl [4, 5, 1, 6, 0] rfl)
      · skip
        have hok : ¬ okR rw_ rn := c20
        refine lv_aload_n hx hb dX4_whose_23 rfl (lv_at hl 0 rfl) ?_
        refine lv_bipush (v := (-3)) hx hb dX4_whose_24 (by decide) ?_
        refine cVI (As := [.int (-3)]) (rest := []) F (c_X4_refuse l g x0 h0 d0 k0 b0 a0 t0 r0 r1 ik rn rf (-3) 3 (by decide) (by omega) (by omega)) kX4_refuse rfl gX4_whose_X4_refuse rfl rfl ⟨Nat.le_of_ble_eq_true rfl, Nat.le_of_ble_eq_true rfl⟩ hP hD hS [0, 6] [1, 2, 3, 4, 5] rfl rfl 0 rfl rfl hl.1 rfl rfl (Nat.le_of_ble_eq_true rfl) dX4_whose_26 ⟨Nat.le_of_ble_eq_true rfl, Nat.le_of_ble_eq_true rfl⟩ (fun rz w1 H locs hpo hP hD hS => ?_)
        obtain ⟨rfl, rfl⟩ := hpo
        obtain ⟨hP, hD⟩ := nx (ws' := [(x0, .inr (4, [.ref h0, .ref d0, .ref k0, .int (nI ik), .ref b0, .ref a0, .ref t0, .ref r0, .int (nI rn), .ref r1])), (h0, .inr (0, [.ref h1, .ref h2, .int (nI sk), .int (nI ek), .int (nI tr)])), (h2, .inl (eI g, 5, .inl (fun j => nI (B j)))), (b0, .inr (1, [.ref b1, .int (nI n)])), (b1, .inl (eI g, 7, .inl (fun j => nI (q j)))), (r0, .inl (eI g, 12, .inl (fun j => nI (rw_ j)))), (r1, .inl (eI g, 7, .inl (bump rf 3)))]) hP hD [5, 0, 1, 2, 3, 4, 6] (ndB_ok _ rfl) rfl
        exact rtI F hP hD hS dX4_whose_29 (by rw [show (if (nI k).toInt < 0 ∨ 1 < (nI k).toInt then 2 else if okR rw_ rn then 0 else 3) = 3 from (by (try simp only [nI_tI hk_]); rw [if_neg (by omega), if_neg hok])]; exact ⟨_, _, by rfl, rfl⟩)
    · skip
      refine lv_aload_n hx hb dX4_whose_9 rfl (lv_at hl 0 rfl) ?_
      refine lv_bipush (v := (-2)) hx hb dX4_whose_10 (by decide) ?_
      refine cVI (As := [.int (-2)]) (rest := []) F (c_X4_refuse l g x0 h0 d0 k0 b0 a0 t0 r0 r1 ik rn rf (-2) 2 (by decide) (by omega) (by omega)) kX4_refuse rfl gX4_whose_X4_refuse rfl rfl ⟨Nat.le_of_ble_eq_true rfl, Nat.le_of_ble_eq_true rfl⟩ hP hD hS [0, 6] [1, 2, 3, 4, 5] rfl rfl 0 rfl rfl hl.1 rfl rfl (Nat.le_of_ble_eq_true rfl) dX4_whose_12 ⟨Nat.le_of_ble_eq_true rfl, Nat.le_of_ble_eq_true rfl⟩ (fun rz w1 H locs hpo hP hD hS => ?_)
      obtain ⟨rfl, rfl⟩ := hpo
      obtain ⟨hP, hD⟩ := nx (ws' := [(x0, .inr (4, [.ref h0, .ref d0, .ref k0, .int (nI ik), .ref b0, .ref a0, .ref t0, .ref r0, .int (nI rn), .ref r1])), (h0, .inr (0, [.ref h1, .ref h2, .int (nI sk), .int (nI ek), .int (nI tr)])), (h2, .inl (eI g, 5, .inl (fun j => nI (B j)))), (b0, .inr (1, [.ref b1, .int (nI n)])), (b1, .inl (eI g, 7, .inl (fun j => nI (q j)))), (r0, .inl (eI g, 12, .inl (fun j => nI (rw_ j)))), (r1, .inl (eI g, 7, .inl (bump rf 2)))]) hP hD [5, 0, 1, 2, 3, 4, 6] (ndB_ok _ rfl) rfl
      exact rtI F hP hD hS dX4_whose_15 (by rw [show (if x.toInt < 0 ∨ 1 < x.toInt then 2 else if okR rw_ rn then 0 else 3) = 2 from (by rw [if_pos (by omega)])]; exact ⟨_, _, by rfl, rfl⟩)

theorem inX5_whose_X5 : ∀ w ∈ u_ws RX5 TX5 20, w ∈ wsX5_whose := fun _ h => (List.mem_cons_of_mem _ (List.mem_append_right _ h))
theorem lkX5_whose_1 : Cond.fieldLink RX5 170 "StripInFiveStepsModel" "lined" "I" ∈ wsX5_whose := List.mem_of_getElem? (i := 1) rfl
theorem lkX5_whose_3 : Cond.fieldLink RX5 19 "StripInFiveStepsModel" "now" "[I" ∈ wsX5_whose := List.mem_of_getElem? (i := 3) rfl
theorem lkX5_whose_2 : Cond.fieldLink RX5 37 "StripInFiveStepsModel" "line" "[I" ∈ wsX5_whose := List.mem_of_getElem? (i := 2) rfl
theorem kX5_whose : Cal yX5_whose wsX5_whose cX5_whose 7 (some .int) 1 := ⟨⟨_, rfl⟩, by decide +kernel⟩
set_option maxHeartbeats 1000000 in
set_option maxRecDepth 100000 in
theorem c_X5_whose (l : Launch) (g : EE) (m0 : Nat) (m1 : Nat) (m2 : Nat) (m3 : Nat) (m4 : Nat) (m5 : Nat) (m6 : Nat) (m7 : Nat) (m8 : Nat) (m9 : Nat) (m10 : Nat) (m11 : Nat) (m12 : Nat) (m13 : Nat) (m14 : Nat) (kp : Nat) (rn : Nat) (tn : Nat) (ia : Nat) (wl : Nat) (si : Nat) (S : Nat → Nat) (rw_ : Nat → Nat) (rf : Nat → Int32) (x : Int32) (hO : okS S) (hrn : rn ≤ 12) (hrw : ∀ j, rw_ j ≤ 99) : CI l yX5_whose wsX5_whose ({ frames := 5, cells := 0, slots := 0, locals := 112 }) g [.ref m0, .int x] [(m0, .inr (5, [.ref m1, .ref m2, .ref m3, .int (nI kp), .ref m4, .ref m5, .ref m6, .ref m7, .ref m8, .int (nI rn), .ref m9, .int (nI tn), .int (nI ia), .int (nI wl), .ref m10, .ref m11, .ref m12, .int (nI si), .ref m13, .ref m14])), (m1, .inl (eI g, 7, .inl rf)), (m2, .inl (eI g, 49, .inl (fun j => nI (S j)))), (m8, .inl (eI g, 12, .inl (fun j => nI (rw_ j))))] (fun (rz : Int32) (wz : va_W) => rz = (rsp (if x.toInt < 0 ∨ 1 < x.toInt then 2 else if okR rw_ rn then 0 else 3) (if x.toInt = 0 then bitsI (fun n => decide (toldR (fun v r => tl (S 41) (S 42) (S 43) (S 46) n v r) rw_ rn)) 5 else bitsI (fun n => decide (toldR (fun v r => tl (S 41) (S 42) n (S 46) (S 47) v r) rw_ rn)) 10)) ∧ wz = [(m0, .inr (5, [.ref m1, .ref m2, .ref m3, .int (nI kp), .ref m4, .ref m5, .ref m6, .ref m7, .ref m8, .int (nI rn), .ref m9, .int (nI tn), .int (nI ia), .int (nI wl), .ref m10, .ref m11, .ref m12, .int (nI si), .ref m13, .ref m14])), (m1, .inl (eI g, 7, .inl (bump rf (if x.toInt < 0 ∨ 1 < x.toInt then 2 else if okR rw_ rn then 0 else 3)))), (m2, .inl (eI g, 49, .inl (fun j => nI (S j)))), (m8, .inl (eI g, 12, .inl (fun j => nI (rw_ j))))]) 0 0 := by
  refine ctI (cc := cX5_whose) (maxL := 7) (ret := (some .int)) (by decide) rfl (Nat.le_of_ble_eq_true rfl) ?_
  intro p_ e_ s_ m_ bl_ mt_ cd_ A ls F hnm hP hD hS hl
  obtain ⟨hx, hb, hml, hown, hts, hK, hX, hA, hrt_, hlocks⟩ := id F
  have hl : lv_has ls 7 [(0, .ref m0), (1, .int x)] := hl
  obtain ⟨hw40, ⟨h41a, h41b⟩, ⟨h42a, h42b⟩, h43, h44, h45, h46, h47, h48⟩ := id hO
  refine lv_iload_n hx hb dX5_whose_0 rfl (lv_at hl 1 rfl) ?_
  refine weq (tgt := 16) hx hb dX5_whose_1 (by decide) (fun c1 => ?_) (fun c1 => ?_)
  · skip
    obtain ⟨k, hk_, rfl⟩ := natOf (x := x) (by omega)
    try rw [nI_tI hk_] at c1
    try rw [nI_tI hk_] at c6
    refine lv_aload_n hx hb dX5_whose_16 rfl (lv_at hl 0 rfl) ?_
    refine xget F hP inX5_whose_X5 0 rfl rfl 9 (by decide) lkX5_whose_1 rfl dX5_whose_17 ?_
    refine lv_iconst (v := (nI 3)) hx hb dX5_whose_20 (by decide) ?_
    refine xrem hx hb (by omega) (by omega) (by omega) dX5_whose_21 ?_
    refine zne (tgt := 29) hx hb dX5_whose_22 (by decide) (by omega) (fun c22 => ?_) (fun c22 => ?_)
    · skip
      refine lv_iconst (v := (nI 0)) hx hb dX5_whose_29 (by decide) ?_
      refine lv_istore_n (lv' := [(2, .int (nI 0)), (0, .ref m0), (1, .int (nI k))]) hx hb dX5_whose_30 rfl hl (by decide) rfl (fun ls hl => ?_)
      refine lv_iconst (v := (nI 0)) hx hb dX5_whose_31 (by decide) ?_
      refine lv_istore_n (lv' := [(3, .int (nI 0)), (2, .int (nI 0)), (0, .ref m0), (1, .int (nI k))]) hx hb dX5_whose_32 rfl hl (by decide) rfl (fun ls hl => ?_)
      refine xlo (σ := Nat × Nat) 7 (fun xz_ => (fun (i : Nat) (z : Nat) => [(0, .ref m0), (1, .int (nI k)), (2, .int (nI z)), (3, .int (nI i))]) xz_.1 xz_.2) (fun xz_ => (fun (i : Nat) (z : Nat) => [(m0, .inr (5, [.ref m1, .ref m2, .ref m3, .int (nI kp), .ref m4, .ref m5, .ref m6, .ref m7, .ref m8, .int (nI rn), .ref m9, .int (nI tn), .int (nI ia), .int (nI wl), .ref m10, .ref m11, .ref m12, .int (nI si), .ref m13, .ref m14])), (m1, .inl (eI g, 7, .inl rf)), (m2, .inl (eI g, 49, .inl (fun j => nI (S j)))), (m8, .inl (eI g, 12, .inl (fun j => nI (rw_ j))))]) xz_.1 xz_.2) (fun xz_ => (fun (i : Nat) (z : Nat) => ((z = 1 ∧ (rn % 3 = 0 ∧ ∀ j, j < i → cdR rw_ j)) ∨ (z = 0 ∧ ¬ (rn % 3 = 0 ∧ ∀ j, j < i → cdR rw_ j))) ∧ i ≤ rn ∧ z ≤ 1) xz_.1 xz_.2) (fun xz_ => (fun (i : Nat) (z : Nat) => rn - i) xz_.1 xz_.2) (fun xz_ hI ih33 H locs ls hP hD hS hl => ?_) (0, 0) (show ((0 = 1 ∧ (rn % 3 = 0 ∧ ∀ j, j < 0 → cdR rw_ j)) ∨ (0 = 0 ∧ ¬ (rn % 3 = 0 ∧ ∀ j, j < 0 → cdR rw_ j))) ∧ 0 ≤ rn ∧ 0 ≤ 1 from (⟨Or.inr ⟨rfl, fun q => by omega⟩, by omega, by omega⟩)) hP hD hS (lv_sub hl [2, 3, 1, 0] rfl)
      obtain ⟨i, z⟩ := xz_
      have hP : va_P (eD g) vwCl [(m0, .inr (5, [.ref m1, .ref m2, .ref m3, .int (nI kp), .ref m4, .ref m5, .ref m6, .ref m7, .ref m8, .int (nI rn), .ref m9, .int (nI tn), .int (nI ia), .int (nI wl), .ref m10, .ref m11, .ref m12, .int (nI si), .ref m13, .ref m14])), (m1, .inl (eI g, 7, .inl rf)), (m2, .inl (eI g, 49, .inl (fun j => nI (S j)))), (m8, .inl (eI g, 12, .inl (fun j => nI (rw_ j))))] H := hP
      have hD : va_D A [(m0, .inr (5, [.ref m1, .ref m2, .ref m3, .int (nI kp), .ref m4, .ref m5, .ref m6, .ref m7, .ref m8, .int (nI rn), .ref m9, .int (nI tn), .int (nI ia), .int (nI wl), .ref m10, .ref m11, .ref m12, .int (nI si), .ref m13, .ref m14])), (m1, .inl (eI g, 7, .inl rf)), (m2, .inl (eI g, 49, .inl (fun j => nI (S j)))), (m8, .inl (eI g, 12, .inl (fun j => nI (rw_ j))))] := hD
      have hl : lv_has ls 7 [(0, .ref m0), (1, .int (nI k)), (2, .int (nI z)), (3, .int (nI i))] := hl
      have hI33 : ((z = 1 ∧ (rn % 3 = 0 ∧ ∀ j, j < i → cdR rw_ j)) ∨ (z = 0 ∧ ¬ (rn % 3 = 0 ∧ ∀ j, j < i → cdR rw_ j))) ∧ i ≤ rn ∧ z ≤ 1 := hI
      clear hI
      obtain ⟨hz0, hi2, hz1⟩ := id hI33
      refine lv_iload_n hx hb dX5_whose_33 rfl (lv_at hl 3 rfl) ?_
      refine lv_aload_n hx hb dX5_whose_34 rfl (lv_at hl 0 rfl) ?_
      refine xget F hP inX5_whose_X5 0 rfl rfl 9 (by decide) lkX5_whose_1 rfl dX5_whose_35 ?_
      refine xge (tgt := 90) hx hb dX5_whose_38 (by decide) (by omega) (by omega) (fun c38 => ?_) (fun c38 => ?_)
      · skip
        refine lv_iload_n hx hb dX5_whose_90 rfl (lv_at hl 2 rfl) ?_
        refine zne (tgt := 101) hx hb dX5_whose_91 (by decide) (by omega) (fun c91 => ?_) (fun c91 => ?_)
        · skip
          have hok : okR rw_ rn := by rcases hz0 with h | h; exact ⟨h.2.1, fun j hj => h.2.2 j (by omega)⟩; exact absurd h.1 c91
          refine lv_iload_n hx hb dX5_whose_101 rfl (lv_at hl 1 rfl) ?_
          refine zne (tgt := 110) hx hb dX5_whose_102 (by decide) (by omega) (fun c102 => ?_) (fun c102 => ?_)
          · skip
            refine lv_bipush (v := (nI 43)) hx hb dX5_whose_110 (by decide) ?_
            refine lv_istore_n (lv' := [(3, .int (nI 43)), (0, .ref m0), (1, .int (nI k)), (2, .int (nI z))]) hx hb dX5_whose_112 rfl hl (by decide) rfl (fun ls hl => ?_)
            refine lv_aload_n hx hb dX5_whose_113 rfl (lv_at hl 1 rfl) ?_
            refine xget F hP inX5_whose_X5 0 rfl rfl 1 (by decide) lkX5_whose_3 rfl dX5_whose_114 ?_
            refine lv_iload_n hx hb dX5_whose_117 rfl (lv_at hl 0 rfl) ?_
            refine xald F hP 2 (v := (nI (S 43))) rfl (by omega) (by omega) rfl dX5_whose_118 ?_
            refine lv_istore (lv' := [(4, .int (nI (S 43))), (3, .int (nI 43)), (0, .ref m0), (1, .int (nI k)), (2, .int (nI z))]) hx hb dX5_whose_119 hl (by decide) rfl (fun ls hl => ?_)
            refine lv_iconst (v := (nI 0)) hx hb dX5_whose_121 (by decide) ?_
            refine lv_istore (lv' := [(5, .int (nI 0)), (4, .int (nI (S 43))), (3, .int (nI 43)), (0, .ref m0), (1, .int (nI k)), (2, .int (nI z))]) hx hb dX5_whose_122 hl (by decide) rfl (fun ls hl => ?_)
            refine lv_iconst (v := (nI 0)) hx hb dX5_whose_124 (by decide) ?_
            refine lv_istore (lv' := [(6, .int (nI 0)), (5, .int (nI 0)), (4, .int (nI (S 43))), (3, .int (nI 43)), (0, .ref m0), (1, .int (nI k)), (2, .int (nI z))]) hx hb dX5_whose_125 hl (by decide) rfl (fun ls hl => ?_)
            refine xlo (σ := Nat × Int32 × (Nat → Nat)) 7 (fun xz_ => (fun (i : Nat) (b : Int32) (V : Nat → Nat) => [(0, .ref m0), (1, .int (nI k)), (3, .int (nI 43)), (4, .int (nI (S 43))), (5, .int b), (6, .int (nI i))]) xz_.1 xz_.2.1 xz_.2.2) (fun xz_ => (fun (i : Nat) (b : Int32) (V : Nat → Nat) => [(m0, .inr (5, [.ref m1, .ref m2, .ref m3, .int (nI kp), .ref m4, .ref m5, .ref m6, .ref m7, .ref m8, .int (nI rn), .ref m9, .int (nI tn), .int (nI ia), .int (nI wl), .ref m10, .ref m11, .ref m12, .int (nI si), .ref m13, .ref m14])), (m1, .inl (eI g, 7, .inl rf)), (m2, .inl (eI g, 49, .inl (fun j => nI (V j)))), (m8, .inl (eI g, 12, .inl (fun j => nI (rw_ j))))]) xz_.1 xz_.2.1 xz_.2.2) (fun xz_ => (fun (i : Nat) (b : Int32) (V : Nat → Nat) => b = bitsI (fun n => decide (toldR (fun v r => tl (S 41) (S 42) n (S 46) (S 47) v r) rw_ rn)) i ∧ i ≤ 10 ∧ ∃ e, V = updN S 43 e) xz_.1 xz_.2.1 xz_.2.2) (fun xz_ => (fun (i : Nat) (b : Int32) (V : Nat → Nat) => 10 - i) xz_.1 xz_.2.1 xz_.2.2) (fun xz_ hI ih127 H locs ls hP hD hS hl => ?_) (0, (nI 0), S) (show (nI 0) = bitsI (fun n => decide (toldR (fun v r => tl (S 41) (S 42) n (S 46) (S 47) v r) rw_ rn)) 0 ∧ 0 ≤ 10 ∧ ∃ e, S = updN S 43 e from (⟨rfl, by omega, ⟨S 43, (updN_self _ _).symm⟩⟩)) hP hD hS (lv_sub hl [4, 5, 3, 2, 1, 0] rfl)
            obtain ⟨i, b, V⟩ := xz_
            have hP : va_P (eD g) vwCl [(m0, .inr (5, [.ref m1, .ref m2, .ref m3, .int (nI kp), .ref m4, .ref m5, .ref m6, .ref m7, .ref m8, .int (nI rn), .ref m9, .int (nI tn), .int (nI ia), .int (nI wl), .ref m10, .ref m11, .ref m12, .int (nI si), .ref m13, .ref m14])), (m1, .inl (eI g, 7, .inl rf)), (m2, .inl (eI g, 49, .inl (fun j => nI (V j)))), (m8, .inl (eI g, 12, .inl (fun j => nI (rw_ j))))] H := hP
            have hD : va_D A [(m0, .inr (5, [.ref m1, .ref m2, .ref m3, .int (nI kp), .ref m4, .ref m5, .ref m6, .ref m7, .ref m8, .int (nI rn), .ref m9, .int (nI tn), .int (nI ia), .int (nI wl), .ref m10, .ref m11, .ref m12, .int (nI si), .ref m13, .ref m14])), (m1, .inl (eI g, 7, .inl rf)), (m2, .inl (eI g, 49, .inl (fun j => nI (V j)))), (m8, .inl (eI g, 12, .inl (fun j => nI (rw_ j))))] := hD
            have hl : lv_has ls 7 [(0, .ref m0), (1, .int (nI k)), (3, .int (nI 43)), (4, .int (nI (S 43))), (5, .int b), (6, .int (nI i))] := hl
            have hI127 : b = bitsI (fun n => decide (toldR (fun v r => tl (S 41) (S 42) n (S 46) (S 47) v r) rw_ rn)) i ∧ i ≤ 10 ∧ ∃ e, V = updN S 43 e := hI
            clear hI
            obtain ⟨hb0, hi2, hV0⟩ := id hI127
            refine lv_iload hx hb dX5_whose_127 (lv_at hl 5 rfl) ?_
            refine lv_iload_n hx hb dX5_whose_129 rfl (lv_at hl 1 rfl) ?_
            refine zne (tgt := 137) hx hb dX5_whose_130 (by decide) (by omega) (fun c130 => ?_) (fun c130 => ?_)
            · skip
              refine lv_bipush (v := (nI 10)) hx hb dX5_whose_137 (by decide) ?_
              refine xge (tgt := 176) hx hb dX5_whose_139 (by decide) (by omega) (by omega) (fun c139 => ?_) (fun c139 => ?_)
              · skip
                refine lv_aload_n hx hb dX5_whose_176 rfl (lv_at hl 0 rfl) ?_
                refine xget F hP inX5_whose_X5 0 rfl rfl 1 (by decide) lkX5_whose_3 rfl dX5_whose_177 ?_
                refine lv_iload_n hx hb dX5_whose_180 rfl (lv_at hl 2 rfl) ?_
                refine lv_iload hx hb dX5_whose_181 (lv_at hl 3 rfl) ?_
                refine xast F hP hD hS 2 (f' := fun j => nI ((updN V 43 (S 43)) j)) rfl (by omega) (by omega) (upd_nI V 43 (S 43)) dX5_whose_183 (fun H locs hP hD hS => ?_)
                have hP : va_P (eD g) vwCl [(m0, .inr (5, [.ref m1, .ref m2, .ref m3, .int (nI kp), .ref m4, .ref m5, .ref m6, .ref m7, .ref m8, .int (nI rn), .ref m9, .int (nI tn), .int (nI ia), .int (nI wl), .ref m10, .ref m11, .ref m12, .int (nI si), .ref m13, .ref m14])), (m1, .inl (eI g, 7, .inl rf)), (m2, .inl (eI g, 49, .inl (fun j => nI ((updN V 43 (S 43)) j)))), (m8, .inl (eI g, 12, .inl (fun j => nI (rw_ j))))] H := hP
                have hD : va_D A [(m0, .inr (5, [.ref m1, .ref m2, .ref m3, .int (nI kp), .ref m4, .ref m5, .ref m6, .ref m7, .ref m8, .int (nI rn), .ref m9, .int (nI tn), .int (nI ia), .int (nI wl), .ref m10, .ref m11, .ref m12, .int (nI si), .ref m13, .ref m14])), (m1, .inl (eI g, 7, .inl rf)), (m2, .inl (eI g, 49, .inl (fun j => nI ((updN V 43 (S 43)) j)))), (m8, .inl (eI g, 12, .inl (fun j => nI (rw_ j))))] := hD
                rw [show (updN V 43 (S 43)) = S from (by obtain ⟨e, he⟩ := hV0; rw [he, updN_2, updN_self])] at hP hD
                have hP : va_P (eD g) vwCl [(m0, .inr (5, [.ref m1, .ref m2, .ref m3, .int (nI kp), .ref m4, .ref m5, .ref m6, .ref m7, .ref m8, .int (nI rn), .ref m9, .int (nI tn), .int (nI ia), .int (nI wl), .ref m10, .ref m11, .ref m12, .int (nI si), .ref m13, .ref m14])), (m1, .inl (eI g, 7, .inl rf)), (m2, .inl (eI g, 49, .inl (fun j => nI ((S) j)))), (m8, .inl (eI g, 12, .inl (fun j => nI (rw_ j))))] H := hP
                have hD : va_D A [(m0, .inr (5, [.ref m1, .ref m2, .ref m3, .int (nI kp), .ref m4, .ref m5, .ref m6, .ref m7, .ref m8, .int (nI rn), .ref m9, .int (nI tn), .int (nI ia), .int (nI wl), .ref m10, .ref m11, .ref m12, .int (nI si), .ref m13, .ref m14])), (m1, .inl (eI g, 7, .inl rf)), (m2, .inl (eI g, 49, .inl (fun j => nI ((S) j)))), (m8, .inl (eI g, 12, .inl (fun j => nI (rw_ j))))] := hD
                refine lv_iload hx hb dX5_whose_184 (lv_at hl 4 rfl) ?_
                exact rtI F hP hD hS dX5_whose_186 (by rw [show (if (nI k).toInt < 0 ∨ 1 < (nI k).toInt then 2 else if okR rw_ rn then 0 else 3) = 0 from (by (try simp only [nI_tI hk_]); rw [if_neg (by omega), if_pos hok])]; exact ⟨by rw [rsp_0, nI_tI hk_, if_neg (by omega), hb0, show i = 10 by omega], rfl⟩)
              · skip
                refine lv_aload_n hx hb dX5_whose_142 rfl (lv_at hl 0 rfl) ?_
                refine xget F hP inX5_whose_X5 0 rfl rfl 1 (by decide) lkX5_whose_3 rfl dX5_whose_143 ?_
                refine lv_iload_n hx hb dX5_whose_146 rfl (lv_at hl 2 rfl) ?_
                refine lv_iload hx hb dX5_whose_147 (lv_at hl 5 rfl) ?_
                refine xast F hP hD hS 2 (f' := fun j => nI ((updN V 43 i) j)) rfl (by omega) (by omega) (upd_nI V 43 i) dX5_whose_149 (fun H locs hP hD hS => ?_)
                have hP : va_P (eD g) vwCl [(m0, .inr (5, [.ref m1, .ref m2, .ref m3, .int (nI kp), .ref m4, .ref m5, .ref m6, .ref m7, .ref m8, .int (nI rn), .ref m9, .int (nI tn), .int (nI ia), .int (nI wl), .ref m10, .ref m11, .ref m12, .int (nI si), .ref m13, .ref m14])), (m1, .inl (eI g, 7, .inl rf)), (m2, .inl (eI g, 49, .inl (fun j => nI ((updN V 43 i) j)))), (m8, .inl (eI g, 12, .inl (fun j => nI (rw_ j))))] H := hP
                have hD : va_D A [(m0, .inr (5, [.ref m1, .ref m2, .ref m3, .int (nI kp), .ref m4, .ref m5, .ref m6, .ref m7, .ref m8, .int (nI rn), .ref m9, .int (nI tn), .int (nI ia), .int (nI wl), .ref m10, .ref m11, .ref m12, .int (nI si), .ref m13, .ref m14])), (m1, .inl (eI g, 7, .inl rf)), (m2, .inl (eI g, 49, .inl (fun j => nI ((updN V 43 i) j)))), (m8, .inl (eI g, 12, .inl (fun j => nI (rw_ j))))] := hD
                rw [show (updN V 43 i) = (updN S 43 i) from (by obtain ⟨e, he⟩ := hV0; rw [he, updN_2])] at hP hD
                have hP : va_P (eD g) vwCl [(m0, .inr (5, [.ref m1, .ref m2, .ref m3, .int (nI kp), .ref m4, .ref m5, .ref m6, .ref m7, .ref m8, .int (nI rn), .ref m9, .int (nI tn), .int (nI ia), .int (nI wl), .ref m10, .ref m11, .ref m12, .int (nI si), .ref m13, .ref m14])), (m1, .inl (eI g, 7, .inl rf)), (m2, .inl (eI g, 49, .inl (fun j => nI ((updN S 43 i) j)))), (m8, .inl (eI g, 12, .inl (fun j => nI (rw_ j))))] H := hP
                have hD : va_D A [(m0, .inr (5, [.ref m1, .ref m2, .ref m3, .int (nI kp), .ref m4, .ref m5, .ref m6, .ref m7, .ref m8, .int (nI rn), .ref m9, .int (nI tn), .int (nI ia), .int (nI wl), .ref m10, .ref m11, .ref m12, .int (nI si), .ref m13, .ref m14])), (m1, .inl (eI g, 7, .inl rf)), (m2, .inl (eI g, 49, .inl (fun j => nI ((updN S 43 i) j)))), (m8, .inl (eI g, 12, .inl (fun j => nI (rw_ j))))] := hD
                refine lv_iload hx hb dX5_whose_150 (lv_at hl 4 rfl) ?_
                refine lv_aload_n hx hb dX5_whose_152 rfl (lv_at hl 0 rfl) ?_
                refine cVI (As := []) (rest := [.int b]) F (c_X5_isAllSo l g m0 m1 m2 m3 m4 m5 m6 m7 m8 m9 m10 m11 m12 m13 m14 kp rn tn ia wl si (updN S 43 i) rw_ (by first | exact okS_47 hO (by omega) | exact okS_43 hO (by omega)) (hok) (hrn) (hrw)) kX5_isAllSo rfl gX5_whose_X5_isAllSo rfl rfl ⟨Nat.le_of_ble_eq_true rfl, Nat.le_of_ble_eq_true rfl⟩ hP hD hS [0, 2, 3] [1] rfl rfl 0 rfl rfl hl.1 rfl rfl (Nat.le_of_ble_eq_true rfl) dX5_whose_153 ⟨Nat.le_of_ble_eq_true rfl, Nat.le_of_ble_eq_true rfl⟩ (fun rz w1 H locs hpo hP hD hS => ?_)
                obtain ⟨rfl, rfl⟩ := hpo
                obtain ⟨hP, hD⟩ := nx (ws' := [(m0, .inr (5, [.ref m1, .ref m2, .ref m3, .int (nI kp), .ref m4, .ref m5, .ref m6, .ref m7, .ref m8, .int (nI rn), .ref m9, .int (nI tn), .int (nI ia), .int (nI wl), .ref m10, .ref m11, .ref m12, .int (nI si), .ref m13, .ref m14])), (m1, .inl (eI g, 7, .inl rf)), (m2, .inl (eI g, 49, .inl (fun j => nI ((updN S 43 i) j)))), (m8, .inl (eI g, 12, .inl (fun j => nI (rw_ j))))]) hP hD [1, 0, 2, 3] (ndB_ok _ rfl) rfl
                refine bqeq (tgt := 166) hx hb dX5_whose_156 (by decide) (fun c156 => ?_) (fun c156 => ?_)
                · skip
                  refine lv_iconst (v := (nI 0)) hx hb dX5_whose_166 (by decide) ?_
                  refine lv_ior hx hb dX5_whose_167 ?_
                  refine lv_istore (lv' := [(5, .int (b ||| (nI 0))), (0, .ref m0), (1, .int (nI k)), (3, .int (nI 43)), (4, .int (nI (S 43))), (6, .int (nI i))]) hx hb dX5_whose_168 hl (by decide) rfl (fun ls hl => ?_)
                  refine lv_iinc (v := (nI (i + 1))) (lv' := [(6, .int (nI (i + 1))), (5, .int (b ||| (nI 0))), (0, .ref m0), (1, .int (nI k)), (3, .int (nI 43)), (4, .int (nI (S 43)))]) hx hb dX5_whose_170 hl (k := 5) rfl (iincP i 1) (by decide) rfl (fun ls hl => ?_)
                  refine lv_goto (tgt := 127) hx hb dX5_whose_173 (by decide) ?_
                  exact ih127 (i + 1, (b ||| (nI 0)), (updN S 43 i)) (show (b ||| (nI 0)) = bitsI (fun n => decide (toldR (fun v r => tl (S 41) (S 42) n (S 46) (S 47) v r) rw_ rn)) (i + 1) ∧ (i + 1) ≤ 10 ∧ ∃ e, (updN S 43 i) = updN S 43 e from (⟨(or_nI0 b).trans (bits_off (P := (fun n => decide (toldR (fun v r => tl (S 41) (S 42) n (S 46) (S 47) v r) rw_ rn))) hb0 (by have := c156; rw [tlS_43] at this; exact fun q => this (of_decide_eq_true q))), by omega, ⟨i, rfl⟩⟩)) (show 10 - (i + 1) < 10 - i from (by omega)) _ _ _ hP hD hS (lv_sub hl [2, 3, 4, 5, 1, 0] rfl)
                · skip
                  refine lv_iconst (v := (nI 1)) hx hb dX5_whose_159 (by decide) ?_
                  refine lv_iload hx hb dX5_whose_160 (lv_at hl 5 rfl) ?_
                  refine lv_ishl hx hb dX5_whose_162 ?_
                  refine lv_goto (tgt := 167) hx hb dX5_whose_163 (by decide) ?_
                  refine lv_ior hx hb dX5_whose_167 ?_
                  refine lv_istore (lv' := [(5, .int (b ||| ((nI 1) <<< ((nI i) &&& 31)))), (0, .ref m0), (1, .int (nI k)), (3, .int (nI 43)), (4, .int (nI (S 43))), (6, .int (nI i))]) hx hb dX5_whose_168 hl (by decide) rfl (fun ls hl => ?_)
                  refine lv_iinc (v := (nI (i + 1))) (lv' := [(6, .int (nI (i + 1))), (5, .int (b ||| ((nI 1) <<< ((nI i) &&& 31)))), (0, .ref m0), (1, .int (nI k)), (3, .int (nI 43)), (4, .int (nI (S 43)))]) hx hb dX5_whose_170 hl (k := 5) rfl (iincP i 1) (by decide) rfl (fun ls hl => ?_)
                  refine lv_goto (tgt := 127) hx hb dX5_whose_173 (by decide) ?_
                  exact ih127 (i + 1, (b ||| ((nI 1) <<< ((nI i) &&& 31))), (updN S 43 i)) (show (b ||| ((nI 1) <<< ((nI i) &&& 31))) = bitsI (fun n => decide (toldR (fun v r => tl (S 41) (S 42) n (S 46) (S 47) v r) rw_ rn)) (i + 1) ∧ (i + 1) ≤ 10 ∧ ∃ e, (updN S 43 i) = updN S 43 e from (⟨bits_on (P := (fun n => decide (toldR (fun v r => tl (S 41) (S 42) n (S 46) (S 47) v r) rw_ rn))) hb0 (by have := c156; rw [tlS_43] at this; exact decide_eq_true this), by omega, ⟨i, rfl⟩⟩)) (show 10 - (i + 1) < 10 - i from (by omega)) _ _ _ hP hD hS (lv_sub hl [2, 3, 4, 5, 1, 0] rfl)
            · skip
              exfalso; omega
          · skip
            refine lv_bipush (v := (nI 47)) hx hb dX5_whose_105 (by decide) ?_
            refine lv_goto (tgt := 112) hx hb dX5_whose_107 (by decide) ?_
            refine lv_istore_n (lv' := [(3, .int (nI 47)), (0, .ref m0), (1, .int (nI k)), (2, .int (nI z))]) hx hb dX5_whose_112 rfl hl (by decide) rfl (fun ls hl => ?_)
            refine lv_aload_n hx hb dX5_whose_113 rfl (lv_at hl 1 rfl) ?_
            refine xget F hP inX5_whose_X5 0 rfl rfl 1 (by decide) lkX5_whose_3 rfl dX5_whose_114 ?_
            refine lv_iload_n hx hb dX5_whose_117 rfl (lv_at hl 0 rfl) ?_
            refine xald F hP 2 (v := (nI (S 47))) rfl (by omega) (by omega) rfl dX5_whose_118 ?_
            refine lv_istore (lv' := [(4, .int (nI (S 47))), (3, .int (nI 47)), (0, .ref m0), (1, .int (nI k)), (2, .int (nI z))]) hx hb dX5_whose_119 hl (by decide) rfl (fun ls hl => ?_)
            refine lv_iconst (v := (nI 0)) hx hb dX5_whose_121 (by decide) ?_
            refine lv_istore (lv' := [(5, .int (nI 0)), (4, .int (nI (S 47))), (3, .int (nI 47)), (0, .ref m0), (1, .int (nI k)), (2, .int (nI z))]) hx hb dX5_whose_122 hl (by decide) rfl (fun ls hl => ?_)
            refine lv_iconst (v := (nI 0)) hx hb dX5_whose_124 (by decide) ?_
            refine lv_istore (lv' := [(6, .int (nI 0)), (5, .int (nI 0)), (4, .int (nI (S 47))), (3, .int (nI 47)), (0, .ref m0), (1, .int (nI k)), (2, .int (nI z))]) hx hb dX5_whose_125 hl (by decide) rfl (fun ls hl => ?_)
            refine xlo (σ := Nat × Int32 × (Nat → Nat)) 7 (fun xz_ => (fun (i : Nat) (b : Int32) (V : Nat → Nat) => [(0, .ref m0), (1, .int (nI k)), (3, .int (nI 47)), (4, .int (nI (S 47))), (5, .int b), (6, .int (nI i))]) xz_.1 xz_.2.1 xz_.2.2) (fun xz_ => (fun (i : Nat) (b : Int32) (V : Nat → Nat) => [(m0, .inr (5, [.ref m1, .ref m2, .ref m3, .int (nI kp), .ref m4, .ref m5, .ref m6, .ref m7, .ref m8, .int (nI rn), .ref m9, .int (nI tn), .int (nI ia), .int (nI wl), .ref m10, .ref m11, .ref m12, .int (nI si), .ref m13, .ref m14])), (m1, .inl (eI g, 7, .inl rf)), (m2, .inl (eI g, 49, .inl (fun j => nI (V j)))), (m8, .inl (eI g, 12, .inl (fun j => nI (rw_ j))))]) xz_.1 xz_.2.1 xz_.2.2) (fun xz_ => (fun (i : Nat) (b : Int32) (V : Nat → Nat) => b = bitsI (fun n => decide (toldR (fun v r => tl (S 41) (S 42) (S 43) (S 46) n v r) rw_ rn)) i ∧ i ≤ 5 ∧ ∃ e, V = updN S 47 e) xz_.1 xz_.2.1 xz_.2.2) (fun xz_ => (fun (i : Nat) (b : Int32) (V : Nat → Nat) => 5 - i) xz_.1 xz_.2.1 xz_.2.2) (fun xz_ hI ih127 H locs ls hP hD hS hl => ?_) (0, (nI 0), S) (show (nI 0) = bitsI (fun n => decide (toldR (fun v r => tl (S 41) (S 42) (S 43) (S 46) n v r) rw_ rn)) 0 ∧ 0 ≤ 5 ∧ ∃ e, S = updN S 47 e from (⟨rfl, by omega, ⟨S 47, (updN_self _ _).symm⟩⟩)) hP hD hS (lv_sub hl [4, 5, 3, 2, 1, 0] rfl)
            obtain ⟨i, b, V⟩ := xz_
            have hP : va_P (eD g) vwCl [(m0, .inr (5, [.ref m1, .ref m2, .ref m3, .int (nI kp), .ref m4, .ref m5, .ref m6, .ref m7, .ref m8, .int (nI rn), .ref m9, .int (nI tn), .int (nI ia), .int (nI wl), .ref m10, .ref m11, .ref m12, .int (nI si), .ref m13, .ref m14])), (m1, .inl (eI g, 7, .inl rf)), (m2, .inl (eI g, 49, .inl (fun j => nI (V j)))), (m8, .inl (eI g, 12, .inl (fun j => nI (rw_ j))))] H := hP
            have hD : va_D A [(m0, .inr (5, [.ref m1, .ref m2, .ref m3, .int (nI kp), .ref m4, .ref m5, .ref m6, .ref m7, .ref m8, .int (nI rn), .ref m9, .int (nI tn), .int (nI ia), .int (nI wl), .ref m10, .ref m11, .ref m12, .int (nI si), .ref m13, .ref m14])), (m1, .inl (eI g, 7, .inl rf)), (m2, .inl (eI g, 49, .inl (fun j => nI (V j)))), (m8, .inl (eI g, 12, .inl (fun j => nI (rw_ j))))] := hD
            have hl : lv_has ls 7 [(0, .ref m0), (1, .int (nI k)), (3, .int (nI 47)), (4, .int (nI (S 47))), (5, .int b), (6, .int (nI i))] := hl
            have hI127 : b = bitsI (fun n => decide (toldR (fun v r => tl (S 41) (S 42) (S 43) (S 46) n v r) rw_ rn)) i ∧ i ≤ 5 ∧ ∃ e, V = updN S 47 e := hI
            clear hI
            obtain ⟨hb0, hi2, hV0⟩ := id hI127
            refine lv_iload hx hb dX5_whose_127 (lv_at hl 5 rfl) ?_
            refine lv_iload_n hx hb dX5_whose_129 rfl (lv_at hl 1 rfl) ?_
            refine zne (tgt := 137) hx hb dX5_whose_130 (by decide) (by omega) (fun c130 => ?_) (fun c130 => ?_)
            · skip
              exfalso; omega
            · skip
              refine lv_iconst (v := (nI 5)) hx hb dX5_whose_133 (by decide) ?_
              refine lv_goto (tgt := 139) hx hb dX5_whose_134 (by decide) ?_
              refine xge (tgt := 176) hx hb dX5_whose_139 (by decide) (by omega) (by omega) (fun c139 => ?_) (fun c139 => ?_)
              · skip
                refine lv_aload_n hx hb dX5_whose_176 rfl (lv_at hl 0 rfl) ?_
                refine xget F hP inX5_whose_X5 0 rfl rfl 1 (by decide) lkX5_whose_3 rfl dX5_whose_177 ?_
                refine lv_iload_n hx hb dX5_whose_180 rfl (lv_at hl 2 rfl) ?_
                refine lv_iload hx hb dX5_whose_181 (lv_at hl 3 rfl) ?_
                refine xast F hP hD hS 2 (f' := fun j => nI ((updN V 47 (S 47)) j)) rfl (by omega) (by omega) (upd_nI V 47 (S 47)) dX5_whose_183 (fun H locs hP hD hS => ?_)
                have hP : va_P (eD g) vwCl [(m0, .inr (5, [.ref m1, .ref m2, .ref m3, .int (nI kp), .ref m4, .ref m5, .ref m6, .ref m7, .ref m8, .int (nI rn), .ref m9, .int (nI tn), .int (nI ia), .int (nI wl), .ref m10, .ref m11, .ref m12, .int (nI si), .ref m13, .ref m14])), (m1, .inl (eI g, 7, .inl rf)), (m2, .inl (eI g, 49, .inl (fun j => nI ((updN V 47 (S 47)) j)))), (m8, .inl (eI g, 12, .inl (fun j => nI (rw_ j))))] H := hP
                have hD : va_D A [(m0, .inr (5, [.ref m1, .ref m2, .ref m3, .int (nI kp), .ref m4, .ref m5, .ref m6, .ref m7, .ref m8, .int (nI rn), .ref m9, .int (nI tn), .int (nI ia), .int (nI wl), .ref m10, .ref m11, .ref m12, .int (nI si), .ref m13, .ref m14])), (m1, .inl (eI g, 7, .inl rf)), (m2, .inl (eI g, 49, .inl (fun j => nI ((updN V 47 (S 47)) j)))), (m8, .inl (eI g, 12, .inl (fun j => nI (rw_ j))))] := hD
                rw [show (updN V 47 (S 47)) = S from (by obtain ⟨e, he⟩ := hV0; rw [he, updN_2, updN_self])] at hP hD
                have hP : va_P (eD g) vwCl [(m0, .inr (5, [.ref m1, .ref m2, .ref m3, .int (nI kp), .ref m4, .ref m5, .ref m6, .ref m7, .ref m8, .int (nI rn), .ref m9, .int (nI tn), .int (nI ia), .int (nI wl), .ref m10, .ref m11, .ref m12, .int (nI si), .ref m13, .ref m14])), (m1, .inl (eI g, 7, .inl rf)), (m2, .inl (eI g, 49, .inl (fun j => nI ((S) j)))), (m8, .inl (eI g, 12, .inl (fun j => nI (rw_ j))))] H := hP
                have hD : va_D A [(m0, .inr (5, [.ref m1, .ref m2, .ref m3, .int (nI kp), .ref m4, .ref m5, .ref m6, .ref m7, .ref m8, .int (nI rn), .ref m9, .int (nI tn), .int (nI ia), .int (nI wl), .ref m10, .ref m11, .ref m12, .int (nI si), .ref m13, .ref m14])), (m1, .inl (eI g, 7, .inl rf)), (m2, .inl (eI g, 49, .inl (fun j => nI ((S) j)))), (m8, .inl (eI g, 12, .inl (fun j => nI (rw_ j))))] := hD
                refine lv_iload hx hb dX5_whose_184 (lv_at hl 4 rfl) ?_
                exact rtI F hP hD hS dX5_whose_186 (by rw [show (if (nI k).toInt < 0 ∨ 1 < (nI k).toInt then 2 else if okR rw_ rn then 0 else 3) = 0 from (by (try simp only [nI_tI hk_]); rw [if_neg (by omega), if_pos hok])]; exact ⟨by rw [rsp_0, nI_tI hk_, if_pos (by omega), hb0, show i = 5 by omega], rfl⟩)
              · skip
                refine lv_aload_n hx hb dX5_whose_142 rfl (lv_at hl 0 rfl) ?_
                refine xget F hP inX5_whose_X5 0 rfl rfl 1 (by decide) lkX5_whose_3 rfl dX5_whose_143 ?_
                refine lv_iload_n hx hb dX5_whose_146 rfl (lv_at hl 2 rfl) ?_
                refine lv_iload hx hb dX5_whose_147 (lv_at hl 5 rfl) ?_
                refine xast F hP hD hS 2 (f' := fun j => nI ((updN V 47 i) j)) rfl (by omega) (by omega) (upd_nI V 47 i) dX5_whose_149 (fun H locs hP hD hS => ?_)
                have hP : va_P (eD g) vwCl [(m0, .inr (5, [.ref m1, .ref m2, .ref m3, .int (nI kp), .ref m4, .ref m5, .ref m6, .ref m7, .ref m8, .int (nI rn), .ref m9, .int (nI tn), .int (nI ia), .int (nI wl), .ref m10, .ref m11, .ref m12, .int (nI si), .ref m13, .ref m14])), (m1, .inl (eI g, 7, .inl rf)), (m2, .inl (eI g, 49, .inl (fun j => nI ((updN V 47 i) j)))), (m8, .inl (eI g, 12, .inl (fun j => nI (rw_ j))))] H := hP
                have hD : va_D A [(m0, .inr (5, [.ref m1, .ref m2, .ref m3, .int (nI kp), .ref m4, .ref m5, .ref m6, .ref m7, .ref m8, .int (nI rn), .ref m9, .int (nI tn), .int (nI ia), .int (nI wl), .ref m10, .ref m11, .ref m12, .int (nI si), .ref m13, .ref m14])), (m1, .inl (eI g, 7, .inl rf)), (m2, .inl (eI g, 49, .inl (fun j => nI ((updN V 47 i) j)))), (m8, .inl (eI g, 12, .inl (fun j => nI (rw_ j))))] := hD
                rw [show (updN V 47 i) = (updN S 47 i) from (by obtain ⟨e, he⟩ := hV0; rw [he, updN_2])] at hP hD
                have hP : va_P (eD g) vwCl [(m0, .inr (5, [.ref m1, .ref m2, .ref m3, .int (nI kp), .ref m4, .ref m5, .ref m6, .ref m7, .ref m8, .int (nI rn), .ref m9, .int (nI tn), .int (nI ia), .int (nI wl), .ref m10, .ref m11, .ref m12, .int (nI si), .ref m13, .ref m14])), (m1, .inl (eI g, 7, .inl rf)), (m2, .inl (eI g, 49, .inl (fun j => nI ((updN S 47 i) j)))), (m8, .inl (eI g, 12, .inl (fun j => nI (rw_ j))))] H := hP
                have hD : va_D A [(m0, .inr (5, [.ref m1, .ref m2, .ref m3, .int (nI kp), .ref m4, .ref m5, .ref m6, .ref m7, .ref m8, .int (nI rn), .ref m9, .int (nI tn), .int (nI ia), .int (nI wl), .ref m10, .ref m11, .ref m12, .int (nI si), .ref m13, .ref m14])), (m1, .inl (eI g, 7, .inl rf)), (m2, .inl (eI g, 49, .inl (fun j => nI ((updN S 47 i) j)))), (m8, .inl (eI g, 12, .inl (fun j => nI (rw_ j))))] := hD
                refine lv_iload hx hb dX5_whose_150 (lv_at hl 4 rfl) ?_
                refine lv_aload_n hx hb dX5_whose_152 rfl (lv_at hl 0 rfl) ?_
                refine cVI (As := []) (rest := [.int b]) F (c_X5_isAllSo l g m0 m1 m2 m3 m4 m5 m6 m7 m8 m9 m10 m11 m12 m13 m14 kp rn tn ia wl si (updN S 47 i) rw_ (by first | exact okS_47 hO (by omega) | exact okS_43 hO (by omega)) (hok) (hrn) (hrw)) kX5_isAllSo rfl gX5_whose_X5_isAllSo rfl rfl ⟨Nat.le_of_ble_eq_true rfl, Nat.le_of_ble_eq_true rfl⟩ hP hD hS [0, 2, 3] [1] rfl rfl 0 rfl rfl hl.1 rfl rfl (Nat.le_of_ble_eq_true rfl) dX5_whose_153 ⟨Nat.le_of_ble_eq_true rfl, Nat.le_of_ble_eq_true rfl⟩ (fun rz w1 H locs hpo hP hD hS => ?_)
                obtain ⟨rfl, rfl⟩ := hpo
                obtain ⟨hP, hD⟩ := nx (ws' := [(m0, .inr (5, [.ref m1, .ref m2, .ref m3, .int (nI kp), .ref m4, .ref m5, .ref m6, .ref m7, .ref m8, .int (nI rn), .ref m9, .int (nI tn), .int (nI ia), .int (nI wl), .ref m10, .ref m11, .ref m12, .int (nI si), .ref m13, .ref m14])), (m1, .inl (eI g, 7, .inl rf)), (m2, .inl (eI g, 49, .inl (fun j => nI ((updN S 47 i) j)))), (m8, .inl (eI g, 12, .inl (fun j => nI (rw_ j))))]) hP hD [1, 0, 2, 3] (ndB_ok _ rfl) rfl
                refine bqeq (tgt := 166) hx hb dX5_whose_156 (by decide) (fun c156 => ?_) (fun c156 => ?_)
                · skip
                  refine lv_iconst (v := (nI 0)) hx hb dX5_whose_166 (by decide) ?_
                  refine lv_ior hx hb dX5_whose_167 ?_
                  refine lv_istore (lv' := [(5, .int (b ||| (nI 0))), (0, .ref m0), (1, .int (nI k)), (3, .int (nI 47)), (4, .int (nI (S 47))), (6, .int (nI i))]) hx hb dX5_whose_168 hl (by decide) rfl (fun ls hl => ?_)
                  refine lv_iinc (v := (nI (i + 1))) (lv' := [(6, .int (nI (i + 1))), (5, .int (b ||| (nI 0))), (0, .ref m0), (1, .int (nI k)), (3, .int (nI 47)), (4, .int (nI (S 47)))]) hx hb dX5_whose_170 hl (k := 5) rfl (iincP i 1) (by decide) rfl (fun ls hl => ?_)
                  refine lv_goto (tgt := 127) hx hb dX5_whose_173 (by decide) ?_
                  exact ih127 (i + 1, (b ||| (nI 0)), (updN S 47 i)) (show (b ||| (nI 0)) = bitsI (fun n => decide (toldR (fun v r => tl (S 41) (S 42) (S 43) (S 46) n v r) rw_ rn)) (i + 1) ∧ (i + 1) ≤ 5 ∧ ∃ e, (updN S 47 i) = updN S 47 e from (⟨(or_nI0 b).trans (bits_off (P := (fun n => decide (toldR (fun v r => tl (S 41) (S 42) (S 43) (S 46) n v r) rw_ rn))) hb0 (by have := c156; rw [tlS_47] at this; exact fun q => this (of_decide_eq_true q))), by omega, ⟨i, rfl⟩⟩)) (show 5 - (i + 1) < 5 - i from (by omega)) _ _ _ hP hD hS (lv_sub hl [2, 3, 4, 5, 1, 0] rfl)
                · skip
                  refine lv_iconst (v := (nI 1)) hx hb dX5_whose_159 (by decide) ?_
                  refine lv_iload hx hb dX5_whose_160 (lv_at hl 5 rfl) ?_
                  refine lv_ishl hx hb dX5_whose_162 ?_
                  refine lv_goto (tgt := 167) hx hb dX5_whose_163 (by decide) ?_
                  refine lv_ior hx hb dX5_whose_167 ?_
                  refine lv_istore (lv' := [(5, .int (b ||| ((nI 1) <<< ((nI i) &&& 31)))), (0, .ref m0), (1, .int (nI k)), (3, .int (nI 47)), (4, .int (nI (S 47))), (6, .int (nI i))]) hx hb dX5_whose_168 hl (by decide) rfl (fun ls hl => ?_)
                  refine lv_iinc (v := (nI (i + 1))) (lv' := [(6, .int (nI (i + 1))), (5, .int (b ||| ((nI 1) <<< ((nI i) &&& 31)))), (0, .ref m0), (1, .int (nI k)), (3, .int (nI 47)), (4, .int (nI (S 47)))]) hx hb dX5_whose_170 hl (k := 5) rfl (iincP i 1) (by decide) rfl (fun ls hl => ?_)
                  refine lv_goto (tgt := 127) hx hb dX5_whose_173 (by decide) ?_
                  exact ih127 (i + 1, (b ||| ((nI 1) <<< ((nI i) &&& 31))), (updN S 47 i)) (show (b ||| ((nI 1) <<< ((nI i) &&& 31))) = bitsI (fun n => decide (toldR (fun v r => tl (S 41) (S 42) (S 43) (S 46) n v r) rw_ rn)) (i + 1) ∧ (i + 1) ≤ 5 ∧ ∃ e, (updN S 47 i) = updN S 47 e from (⟨bits_on (P := (fun n => decide (toldR (fun v r => tl (S 41) (S 42) (S 43) (S 46) n v r) rw_ rn))) hb0 (by have := c156; rw [tlS_47] at this; exact decide_eq_true this), by omega, ⟨i, rfl⟩⟩)) (show 5 - (i + 1) < 5 - i from (by omega)) _ _ _ hP hD hS (lv_sub hl [2, 3, 4, 5, 1, 0] rfl)
        · skip
          have hok : ¬ okR rw_ rn := fun q => by rcases hz0 with h | h; exact absurd h.1 (by omega); exact h.2 ⟨q.1, fun j hj => q.2 j (by omega)⟩
          refine lv_aload_n hx hb dX5_whose_94 rfl (lv_at hl 0 rfl) ?_
          refine lv_bipush (v := (-3)) hx hb dX5_whose_95 (by decide) ?_
          refine cVI (As := [.int (-3)]) (rest := []) F (c_X5_no l g m0 m1 m2 m3 m4 m5 m6 m7 m8 m9 m10 m11 m12 m13 m14 kp rn tn ia wl si rf (-3) 3 (by decide) (by omega) (by omega)) kX5_no rfl gX5_whose_X5_no rfl rfl ⟨Nat.le_of_ble_eq_true rfl, Nat.le_of_ble_eq_true rfl⟩ hP hD hS [0, 1] [2, 3] rfl rfl 0 rfl rfl hl.1 rfl rfl (Nat.le_of_ble_eq_true rfl) dX5_whose_97 ⟨Nat.le_of_ble_eq_true rfl, Nat.le_of_ble_eq_true rfl⟩ (fun rz w1 H locs hpo hP hD hS => ?_)
          obtain ⟨rfl, rfl⟩ := hpo
          obtain ⟨hP, hD⟩ := nx (ws' := [(m0, .inr (5, [.ref m1, .ref m2, .ref m3, .int (nI kp), .ref m4, .ref m5, .ref m6, .ref m7, .ref m8, .int (nI rn), .ref m9, .int (nI tn), .int (nI ia), .int (nI wl), .ref m10, .ref m11, .ref m12, .int (nI si), .ref m13, .ref m14])), (m1, .inl (eI g, 7, .inl (bump rf 3))), (m2, .inl (eI g, 49, .inl (fun j => nI (S j)))), (m8, .inl (eI g, 12, .inl (fun j => nI (rw_ j))))]) hP hD [2, 3, 0, 1] (ndB_ok _ rfl) rfl
          exact rtI F hP hD hS dX5_whose_100 (by rw [show (if (nI k).toInt < 0 ∨ 1 < (nI k).toInt then 2 else if okR rw_ rn then 0 else 3) = 3 from (by (try simp only [nI_tI hk_]); rw [if_neg (by omega), if_neg hok])]; exact ⟨by rfl, rfl⟩)
      · skip
        refine lv_iload_n hx hb dX5_whose_41 rfl (lv_at hl 2 rfl) ?_
        refine zeq (tgt := 82) hx hb dX5_whose_42 (by decide) (by omega) (fun c42 => ?_) (fun c42 => ?_)
        · skip
          refine lv_iconst (v := (nI 0)) hx hb dX5_whose_82 (by decide) ?_
          refine lv_istore_n (lv' := [(2, .int (nI 0)), (0, .ref m0), (1, .int (nI k)), (3, .int (nI i))]) hx hb dX5_whose_83 rfl hl (by decide) rfl (fun ls hl => ?_)
          refine lv_iinc (v := (nI (i + 1))) (lv' := [(3, .int (nI (i + 1))), (2, .int (nI 0)), (0, .ref m0), (1, .int (nI k))]) hx hb dX5_whose_84 hl (k := 3) rfl (iincP i 1) (by decide) rfl (fun ls hl => ?_)
          refine lv_goto (tgt := 33) hx hb dX5_whose_87 (by decide) ?_
          exact ih33 (i + 1, 0) (show ((0 = 1 ∧ (rn % 3 = 0 ∧ ∀ j, j < (i + 1) → cdR rw_ j)) ∨ (0 = 0 ∧ ¬ (rn % 3 = 0 ∧ ∀ j, j < (i + 1) → cdR rw_ j))) ∧ (i + 1) ≤ rn ∧ 0 ≤ 1 from (⟨Or.inr ⟨rfl, fun q => by rcases hz0 with h | h; exact absurd h.1 (by omega); exact h.2 ⟨q.1, fun j hj => q.2 j (by omega)⟩⟩, by omega, by omega⟩)) (show rn - (i + 1) < rn - i from (by omega)) _ _ _ hP hD hS (lv_sub hl [2, 3, 1, 0] rfl)
        · skip
          have hq1 : (rn % 3 = 0 ∧ ∀ j, j < i → cdR rw_ j) := (hz0.resolve_right (fun q => c42 q.1)).2
          refine lv_iload_n hx hb dX5_whose_45 rfl (lv_at hl 3 rfl) ?_
          refine lv_iconst (v := (nI 3)) hx hb dX5_whose_46 (by decide) ?_
          refine xrem hx hb (by omega) (by omega) (by omega) dX5_whose_47 ?_
          refine lv_iconst (v := (nI 2)) hx hb dX5_whose_48 (by decide) ?_
          refine xne (tgt := 66) hx hb dX5_whose_49 (by decide) (by omega) (by omega) (fun c49 => ?_) (fun c49 => ?_)
          · skip
            refine lv_aload_n hx hb dX5_whose_66 rfl (lv_at hl 0 rfl) ?_
            refine xget F hP inX5_whose_X5 0 rfl rfl 8 (by decide) lkX5_whose_2 rfl dX5_whose_67 ?_
            refine lv_iload_n hx hb dX5_whose_70 rfl (lv_at hl 3 rfl) ?_
            refine xald F hP 3 (v := (nI (rw_ i))) rfl (by omega) (by omega) rfl dX5_whose_71 ?_
            have hbd4 := hrw (i)
            refine cSI (As := [.int (nI (rw_ i))]) (rest := []) F (n_X5_isNoSecond l g (rw_ i) (by omega)) kX5_isNoSecond gX5_whose_X5_isNoSecond rfl rfl ⟨Nat.le_of_ble_eq_true rfl, Nat.le_of_ble_eq_true rfl⟩ hP hD hS [] [0, 1, 2, 3] rfl rfl hl.1 rfl rfl (Nat.le_of_ble_eq_true rfl) dX5_whose_72 ⟨Nat.le_of_ble_eq_true rfl, Nat.le_of_ble_eq_true rfl⟩ (fun rz w1 H locs hpo hP hD hS => ?_)
            obtain ⟨rfl, rfl⟩ := hpo
            obtain ⟨hP, hD⟩ := nx (ws' := [(m0, .inr (5, [.ref m1, .ref m2, .ref m3, .int (nI kp), .ref m4, .ref m5, .ref m6, .ref m7, .ref m8, .int (nI rn), .ref m9, .int (nI tn), .int (nI ia), .int (nI wl), .ref m10, .ref m11, .ref m12, .int (nI si), .ref m13, .ref m14])), (m1, .inl (eI g, 7, .inl rf)), (m2, .inl (eI g, 49, .inl (fun j => nI (S j)))), (m8, .inl (eI g, 12, .inl (fun j => nI (rw_ j))))]) hP hD [0, 1, 2, 3] (ndB_ok _ rfl) rfl
            refine bqne (tgt := 82) hx hb dX5_whose_75 (by decide) (fun c75 => ?_) (fun c75 => ?_)
            · skip
              refine lv_iconst (v := (nI 0)) hx hb dX5_whose_82 (by decide) ?_
              refine lv_istore_n (lv' := [(2, .int (nI 0)), (0, .ref m0), (1, .int (nI k)), (3, .int (nI i))]) hx hb dX5_whose_83 rfl hl (by decide) rfl (fun ls hl => ?_)
              refine lv_iinc (v := (nI (i + 1))) (lv' := [(3, .int (nI (i + 1))), (2, .int (nI 0)), (0, .ref m0), (1, .int (nI k))]) hx hb dX5_whose_84 hl (k := 3) rfl (iincP i 1) (by decide) rfl (fun ls hl => ?_)
              refine lv_goto (tgt := 33) hx hb dX5_whose_87 (by decide) ?_
              exact ih33 (i + 1, 0) (show ((0 = 1 ∧ (rn % 3 = 0 ∧ ∀ j, j < (i + 1) → cdR rw_ j)) ∨ (0 = 0 ∧ ¬ (rn % 3 = 0 ∧ ∀ j, j < (i + 1) → cdR rw_ j))) ∧ (i + 1) ≤ rn ∧ 0 ≤ 1 from (⟨Or.inr ⟨rfl, fun q => by have := cdR_use (q.2 i (by omega)); omega⟩, by omega, by omega⟩)) (show rn - (i + 1) < rn - i from (by omega)) _ _ _ hP hD hS (lv_sub hl [2, 3, 1, 0] rfl)
            · skip
              refine lv_iconst (v := (nI 1)) hx hb dX5_whose_78 (by decide) ?_
              refine lv_goto (tgt := 83) hx hb dX5_whose_79 (by decide) ?_
              refine lv_istore_n (lv' := [(2, .int (nI 1)), (0, .ref m0), (1, .int (nI k)), (3, .int (nI i))]) hx hb dX5_whose_83 rfl hl (by decide) rfl (fun ls hl => ?_)
              refine lv_iinc (v := (nI (i + 1))) (lv' := [(3, .int (nI (i + 1))), (2, .int (nI 1)), (0, .ref m0), (1, .int (nI k))]) hx hb dX5_whose_84 hl (k := 3) rfl (iincP i 1) (by decide) rfl (fun ls hl => ?_)
              refine lv_goto (tgt := 33) hx hb dX5_whose_87 (by decide) ?_
              exact ih33 (i + 1, 1) (show ((1 = 1 ∧ (rn % 3 = 0 ∧ ∀ j, j < (i + 1) → cdR rw_ j)) ∨ (1 = 0 ∧ ¬ (rn % 3 = 0 ∧ ∀ j, j < (i + 1) → cdR rw_ j))) ∧ (i + 1) ≤ rn ∧ 1 ≤ 1 from (⟨Or.inl ⟨rfl, hq1.1, cd_1 hq1.2 (by unfold cdR; rw [if_neg c49]; omega)⟩, by omega, by omega⟩)) (show rn - (i + 1) < rn - i from (by omega)) _ _ _ hP hD hS (lv_sub hl [2, 3, 1, 0] rfl)
          · skip
            refine lv_aload_n hx hb dX5_whose_52 rfl (lv_at hl 0 rfl) ?_
            refine xget F hP inX5_whose_X5 0 rfl rfl 8 (by decide) lkX5_whose_2 rfl dX5_whose_53 ?_
            refine lv_iload_n hx hb dX5_whose_56 rfl (lv_at hl 3 rfl) ?_
            refine xald F hP 3 (v := (nI (rw_ i))) rfl (by omega) (by omega) rfl dX5_whose_57 ?_
            have hbd6 := hrw (i)
            refine lv_bipush (v := (nI 8)) hx hb dX5_whose_58 (by decide) ?_
            refine xgt (tgt := 82) hx hb dX5_whose_60 (by decide) (by omega) (by omega) (fun c60 => ?_) (fun c60 => ?_)
            · skip
              refine lv_iconst (v := (nI 0)) hx hb dX5_whose_82 (by decide) ?_
              refine lv_istore_n (lv' := [(2, .int (nI 0)), (0, .ref m0), (1, .int (nI k)), (3, .int (nI i))]) hx hb dX5_whose_83 rfl hl (by decide) rfl (fun ls hl => ?_)
              refine lv_iinc (v := (nI (i + 1))) (lv' := [(3, .int (nI (i + 1))), (2, .int (nI 0)), (0, .ref m0), (1, .int (nI k))]) hx hb dX5_whose_84 hl (k := 3) rfl (iincP i 1) (by decide) rfl (fun ls hl => ?_)
              refine lv_goto (tgt := 33) hx hb dX5_whose_87 (by decide) ?_
              exact ih33 (i + 1, 0) (show ((0 = 1 ∧ (rn % 3 = 0 ∧ ∀ j, j < (i + 1) → cdR rw_ j)) ∨ (0 = 0 ∧ ¬ (rn % 3 = 0 ∧ ∀ j, j < (i + 1) → cdR rw_ j))) ∧ (i + 1) ≤ rn ∧ 0 ≤ 1 from (⟨Or.inr ⟨rfl, fun q => by have := cdR_use (q.2 i (by omega)); omega⟩, by omega, by omega⟩)) (show rn - (i + 1) < rn - i from (by omega)) _ _ _ hP hD hS (lv_sub hl [2, 3, 1, 0] rfl)
            · skip
              refine lv_goto (tgt := 78) hx hb dX5_whose_63 (by decide) ?_
              refine lv_iconst (v := (nI 1)) hx hb dX5_whose_78 (by decide) ?_
              refine lv_goto (tgt := 83) hx hb dX5_whose_79 (by decide) ?_
              refine lv_istore_n (lv' := [(2, .int (nI 1)), (0, .ref m0), (1, .int (nI k)), (3, .int (nI i))]) hx hb dX5_whose_83 rfl hl (by decide) rfl (fun ls hl => ?_)
              refine lv_iinc (v := (nI (i + 1))) (lv' := [(3, .int (nI (i + 1))), (2, .int (nI 1)), (0, .ref m0), (1, .int (nI k))]) hx hb dX5_whose_84 hl (k := 3) rfl (iincP i 1) (by decide) rfl (fun ls hl => ?_)
              refine lv_goto (tgt := 33) hx hb dX5_whose_87 (by decide) ?_
              exact ih33 (i + 1, 1) (show ((1 = 1 ∧ (rn % 3 = 0 ∧ ∀ j, j < (i + 1) → cdR rw_ j)) ∨ (1 = 0 ∧ ¬ (rn % 3 = 0 ∧ ∀ j, j < (i + 1) → cdR rw_ j))) ∧ (i + 1) ≤ rn ∧ 1 ≤ 1 from (⟨Or.inl ⟨rfl, hq1.1, cd_1 hq1.2 (by unfold cdR; rw [if_pos c49]; exact c60)⟩, by omega, by omega⟩)) (show rn - (i + 1) < rn - i from (by omega)) _ _ _ hP hD hS (lv_sub hl [2, 3, 1, 0] rfl)
    · skip
      refine lv_iconst (v := (nI 1)) hx hb dX5_whose_25 (by decide) ?_
      refine lv_goto (tgt := 30) hx hb dX5_whose_26 (by decide) ?_
      refine lv_istore_n (lv' := [(2, .int (nI 1)), (0, .ref m0), (1, .int (nI k))]) hx hb dX5_whose_30 rfl hl (by decide) rfl (fun ls hl => ?_)
      refine lv_iconst (v := (nI 0)) hx hb dX5_whose_31 (by decide) ?_
      refine lv_istore_n (lv' := [(3, .int (nI 0)), (2, .int (nI 1)), (0, .ref m0), (1, .int (nI k))]) hx hb dX5_whose_32 rfl hl (by decide) rfl (fun ls hl => ?_)
      refine xlo (σ := Nat × Nat) 7 (fun xz_ => (fun (i : Nat) (z : Nat) => [(0, .ref m0), (1, .int (nI k)), (2, .int (nI z)), (3, .int (nI i))]) xz_.1 xz_.2) (fun xz_ => (fun (i : Nat) (z : Nat) => [(m0, .inr (5, [.ref m1, .ref m2, .ref m3, .int (nI kp), .ref m4, .ref m5, .ref m6, .ref m7, .ref m8, .int (nI rn), .ref m9, .int (nI tn), .int (nI ia), .int (nI wl), .ref m10, .ref m11, .ref m12, .int (nI si), .ref m13, .ref m14])), (m1, .inl (eI g, 7, .inl rf)), (m2, .inl (eI g, 49, .inl (fun j => nI (S j)))), (m8, .inl (eI g, 12, .inl (fun j => nI (rw_ j))))]) xz_.1 xz_.2) (fun xz_ => (fun (i : Nat) (z : Nat) => ((z = 1 ∧ (rn % 3 = 0 ∧ ∀ j, j < i → cdR rw_ j)) ∨ (z = 0 ∧ ¬ (rn % 3 = 0 ∧ ∀ j, j < i → cdR rw_ j))) ∧ i ≤ rn ∧ z ≤ 1) xz_.1 xz_.2) (fun xz_ => (fun (i : Nat) (z : Nat) => rn - i) xz_.1 xz_.2) (fun xz_ hI ih33 H locs ls hP hD hS hl => ?_) (0, 1) (show ((1 = 1 ∧ (rn % 3 = 0 ∧ ∀ j, j < 0 → cdR rw_ j)) ∨ (1 = 0 ∧ ¬ (rn % 3 = 0 ∧ ∀ j, j < 0 → cdR rw_ j))) ∧ 0 ≤ rn ∧ 1 ≤ 1 from (⟨Or.inl ⟨rfl, by omega, fun j hj => absurd hj (Nat.not_lt_zero _)⟩, by omega, by omega⟩)) hP hD hS (lv_sub hl [2, 3, 1, 0] rfl)
      obtain ⟨i, z⟩ := xz_
      have hP : va_P (eD g) vwCl [(m0, .inr (5, [.ref m1, .ref m2, .ref m3, .int (nI kp), .ref m4, .ref m5, .ref m6, .ref m7, .ref m8, .int (nI rn), .ref m9, .int (nI tn), .int (nI ia), .int (nI wl), .ref m10, .ref m11, .ref m12, .int (nI si), .ref m13, .ref m14])), (m1, .inl (eI g, 7, .inl rf)), (m2, .inl (eI g, 49, .inl (fun j => nI (S j)))), (m8, .inl (eI g, 12, .inl (fun j => nI (rw_ j))))] H := hP
      have hD : va_D A [(m0, .inr (5, [.ref m1, .ref m2, .ref m3, .int (nI kp), .ref m4, .ref m5, .ref m6, .ref m7, .ref m8, .int (nI rn), .ref m9, .int (nI tn), .int (nI ia), .int (nI wl), .ref m10, .ref m11, .ref m12, .int (nI si), .ref m13, .ref m14])), (m1, .inl (eI g, 7, .inl rf)), (m2, .inl (eI g, 49, .inl (fun j => nI (S j)))), (m8, .inl (eI g, 12, .inl (fun j => nI (rw_ j))))] := hD
      have hl : lv_has ls 7 [(0, .ref m0), (1, .int (nI k)), (2, .int (nI z)), (3, .int (nI i))] := hl
      have hI33 : ((z = 1 ∧ (rn % 3 = 0 ∧ ∀ j, j < i → cdR rw_ j)) ∨ (z = 0 ∧ ¬ (rn % 3 = 0 ∧ ∀ j, j < i → cdR rw_ j))) ∧ i ≤ rn ∧ z ≤ 1 := hI
      clear hI
      obtain ⟨hz0, hi2, hz1⟩ := id hI33
      refine lv_iload_n hx hb dX5_whose_33 rfl (lv_at hl 3 rfl) ?_
      refine lv_aload_n hx hb dX5_whose_34 rfl (lv_at hl 0 rfl) ?_
      refine xget F hP inX5_whose_X5 0 rfl rfl 9 (by decide) lkX5_whose_1 rfl dX5_whose_35 ?_
      refine xge (tgt := 90) hx hb dX5_whose_38 (by decide) (by omega) (by omega) (fun c38 => ?_) (fun c38 => ?_)
      · skip
        refine lv_iload_n hx hb dX5_whose_90 rfl (lv_at hl 2 rfl) ?_
        refine zne (tgt := 101) hx hb dX5_whose_91 (by decide) (by omega) (fun c91 => ?_) (fun c91 => ?_)
        · skip
          have hok : okR rw_ rn := by rcases hz0 with h | h; exact ⟨h.2.1, fun j hj => h.2.2 j (by omega)⟩; exact absurd h.1 c91
          refine lv_iload_n hx hb dX5_whose_101 rfl (lv_at hl 1 rfl) ?_
          refine zne (tgt := 110) hx hb dX5_whose_102 (by decide) (by omega) (fun c102 => ?_) (fun c102 => ?_)
          · skip
            refine lv_bipush (v := (nI 43)) hx hb dX5_whose_110 (by decide) ?_
            refine lv_istore_n (lv' := [(3, .int (nI 43)), (0, .ref m0), (1, .int (nI k)), (2, .int (nI z))]) hx hb dX5_whose_112 rfl hl (by decide) rfl (fun ls hl => ?_)
            refine lv_aload_n hx hb dX5_whose_113 rfl (lv_at hl 1 rfl) ?_
            refine xget F hP inX5_whose_X5 0 rfl rfl 1 (by decide) lkX5_whose_3 rfl dX5_whose_114 ?_
            refine lv_iload_n hx hb dX5_whose_117 rfl (lv_at hl 0 rfl) ?_
            refine xald F hP 2 (v := (nI (S 43))) rfl (by omega) (by omega) rfl dX5_whose_118 ?_
            refine lv_istore (lv' := [(4, .int (nI (S 43))), (3, .int (nI 43)), (0, .ref m0), (1, .int (nI k)), (2, .int (nI z))]) hx hb dX5_whose_119 hl (by decide) rfl (fun ls hl => ?_)
            refine lv_iconst (v := (nI 0)) hx hb dX5_whose_121 (by decide) ?_
            refine lv_istore (lv' := [(5, .int (nI 0)), (4, .int (nI (S 43))), (3, .int (nI 43)), (0, .ref m0), (1, .int (nI k)), (2, .int (nI z))]) hx hb dX5_whose_122 hl (by decide) rfl (fun ls hl => ?_)
            refine lv_iconst (v := (nI 0)) hx hb dX5_whose_124 (by decide) ?_
            refine lv_istore (lv' := [(6, .int (nI 0)), (5, .int (nI 0)), (4, .int (nI (S 43))), (3, .int (nI 43)), (0, .ref m0), (1, .int (nI k)), (2, .int (nI z))]) hx hb dX5_whose_125 hl (by decide) rfl (fun ls hl => ?_)
            refine xlo (σ := Nat × Int32 × (Nat → Nat)) 7 (fun xz_ => (fun (i : Nat) (b : Int32) (V : Nat → Nat) => [(0, .ref m0), (1, .int (nI k)), (3, .int (nI 43)), (4, .int (nI (S 43))), (5, .int b), (6, .int (nI i))]) xz_.1 xz_.2.1 xz_.2.2) (fun xz_ => (fun (i : Nat) (b : Int32) (V : Nat → Nat) => [(m0, .inr (5, [.ref m1, .ref m2, .ref m3, .int (nI kp), .ref m4, .ref m5, .ref m6, .ref m7, .ref m8, .int (nI rn), .ref m9, .int (nI tn), .int (nI ia), .int (nI wl), .ref m10, .ref m11, .ref m12, .int (nI si), .ref m13, .ref m14])), (m1, .inl (eI g, 7, .inl rf)), (m2, .inl (eI g, 49, .inl (fun j => nI (V j)))), (m8, .inl (eI g, 12, .inl (fun j => nI (rw_ j))))]) xz_.1 xz_.2.1 xz_.2.2) (fun xz_ => (fun (i : Nat) (b : Int32) (V : Nat → Nat) => b = bitsI (fun n => decide (toldR (fun v r => tl (S 41) (S 42) n (S 46) (S 47) v r) rw_ rn)) i ∧ i ≤ 10 ∧ ∃ e, V = updN S 43 e) xz_.1 xz_.2.1 xz_.2.2) (fun xz_ => (fun (i : Nat) (b : Int32) (V : Nat → Nat) => 10 - i) xz_.1 xz_.2.1 xz_.2.2) (fun xz_ hI ih127 H locs ls hP hD hS hl => ?_) (0, (nI 0), S) (show (nI 0) = bitsI (fun n => decide (toldR (fun v r => tl (S 41) (S 42) n (S 46) (S 47) v r) rw_ rn)) 0 ∧ 0 ≤ 10 ∧ ∃ e, S = updN S 43 e from (⟨rfl, by omega, ⟨S 43, (updN_self _ _).symm⟩⟩)) hP hD hS (lv_sub hl [4, 5, 3, 2, 1, 0] rfl)
            obtain ⟨i, b, V⟩ := xz_
            have hP : va_P (eD g) vwCl [(m0, .inr (5, [.ref m1, .ref m2, .ref m3, .int (nI kp), .ref m4, .ref m5, .ref m6, .ref m7, .ref m8, .int (nI rn), .ref m9, .int (nI tn), .int (nI ia), .int (nI wl), .ref m10, .ref m11, .ref m12, .int (nI si), .ref m13, .ref m14])), (m1, .inl (eI g, 7, .inl rf)), (m2, .inl (eI g, 49, .inl (fun j => nI (V j)))), (m8, .inl (eI g, 12, .inl (fun j => nI (rw_ j))))] H := hP
            have hD : va_D A [(m0, .inr (5, [.ref m1, .ref m2, .ref m3, .int (nI kp), .ref m4, .ref m5, .ref m6, .ref m7, .ref m8, .int (nI rn), .ref m9, .int (nI tn), .int (nI ia), .int (nI wl), .ref m10, .ref m11, .ref m12, .int (nI si), .ref m13, .ref m14])), (m1, .inl (eI g, 7, .inl rf)), (m2, .inl (eI g, 49, .inl (fun j => nI (V j)))), (m8, .inl (eI g, 12, .inl (fun j => nI (rw_ j))))] := hD
            have hl : lv_has ls 7 [(0, .ref m0), (1, .int (nI k)), (3, .int (nI 43)), (4, .int (nI (S 43))), (5, .int b), (6, .int (nI i))] := hl
            have hI127 : b = bitsI (fun n => decide (toldR (fun v r => tl (S 41) (S 42) n (S 46) (S 47) v r) rw_ rn)) i ∧ i ≤ 10 ∧ ∃ e, V = updN S 43 e := hI
            clear hI
            obtain ⟨hb0, hi2, hV0⟩ := id hI127
            refine lv_iload hx hb dX5_whose_127 (lv_at hl 5 rfl) ?_
            refine lv_iload_n hx hb dX5_whose_129 rfl (lv_at hl 1 rfl) ?_
            refine zne (tgt := 137) hx hb dX5_whose_130 (by decide) (by omega) (fun c130 => ?_) (fun c130 => ?_)
            · skip
              refine lv_bipush (v := (nI 10)) hx hb dX5_whose_137 (by decide) ?_
              refine xge (tgt := 176) hx hb dX5_whose_139 (by decide) (by omega) (by omega) (fun c139 => ?_) (fun c139 => ?_)
              · skip
                refine lv_aload_n hx hb dX5_whose_176 rfl (lv_at hl 0 rfl) ?_
                refine xget F hP inX5_whose_X5 0 rfl rfl 1 (by decide) lkX5_whose_3 rfl dX5_whose_177 ?_
                refine lv_iload_n hx hb dX5_whose_180 rfl (lv_at hl 2 rfl) ?_
                refine lv_iload hx hb dX5_whose_181 (lv_at hl 3 rfl) ?_
                refine xast F hP hD hS 2 (f' := fun j => nI ((updN V 43 (S 43)) j)) rfl (by omega) (by omega) (upd_nI V 43 (S 43)) dX5_whose_183 (fun H locs hP hD hS => ?_)
                have hP : va_P (eD g) vwCl [(m0, .inr (5, [.ref m1, .ref m2, .ref m3, .int (nI kp), .ref m4, .ref m5, .ref m6, .ref m7, .ref m8, .int (nI rn), .ref m9, .int (nI tn), .int (nI ia), .int (nI wl), .ref m10, .ref m11, .ref m12, .int (nI si), .ref m13, .ref m14])), (m1, .inl (eI g, 7, .inl rf)), (m2, .inl (eI g, 49, .inl (fun j => nI ((updN V 43 (S 43)) j)))), (m8, .inl (eI g, 12, .inl (fun j => nI (rw_ j))))] H := hP
                have hD : va_D A [(m0, .inr (5, [.ref m1, .ref m2, .ref m3, .int (nI kp), .ref m4, .ref m5, .ref m6, .ref m7, .ref m8, .int (nI rn), .ref m9, .int (nI tn), .int (nI ia), .int (nI wl), .ref m10, .ref m11, .ref m12, .int (nI si), .ref m13, .ref m14])), (m1, .inl (eI g, 7, .inl rf)), (m2, .inl (eI g, 49, .inl (fun j => nI ((updN V 43 (S 43)) j)))), (m8, .inl (eI g, 12, .inl (fun j => nI (rw_ j))))] := hD
                rw [show (updN V 43 (S 43)) = S from (by obtain ⟨e, he⟩ := hV0; rw [he, updN_2, updN_self])] at hP hD
                have hP : va_P (eD g) vwCl [(m0, .inr (5, [.ref m1, .ref m2, .ref m3, .int (nI kp), .ref m4, .ref m5, .ref m6, .ref m7, .ref m8, .int (nI rn), .ref m9, .int (nI tn), .int (nI ia), .int (nI wl), .ref m10, .ref m11, .ref m12, .int (nI si), .ref m13, .ref m14])), (m1, .inl (eI g, 7, .inl rf)), (m2, .inl (eI g, 49, .inl (fun j => nI ((S) j)))), (m8, .inl (eI g, 12, .inl (fun j => nI (rw_ j))))] H := hP
                have hD : va_D A [(m0, .inr (5, [.ref m1, .ref m2, .ref m3, .int (nI kp), .ref m4, .ref m5, .ref m6, .ref m7, .ref m8, .int (nI rn), .ref m9, .int (nI tn), .int (nI ia), .int (nI wl), .ref m10, .ref m11, .ref m12, .int (nI si), .ref m13, .ref m14])), (m1, .inl (eI g, 7, .inl rf)), (m2, .inl (eI g, 49, .inl (fun j => nI ((S) j)))), (m8, .inl (eI g, 12, .inl (fun j => nI (rw_ j))))] := hD
                refine lv_iload hx hb dX5_whose_184 (lv_at hl 4 rfl) ?_
                exact rtI F hP hD hS dX5_whose_186 (by rw [show (if (nI k).toInt < 0 ∨ 1 < (nI k).toInt then 2 else if okR rw_ rn then 0 else 3) = 0 from (by (try simp only [nI_tI hk_]); rw [if_neg (by omega), if_pos hok])]; exact ⟨by rw [rsp_0, nI_tI hk_, if_neg (by omega), hb0, show i = 10 by omega], rfl⟩)
              · skip
                refine lv_aload_n hx hb dX5_whose_142 rfl (lv_at hl 0 rfl) ?_
                refine xget F hP inX5_whose_X5 0 rfl rfl 1 (by decide) lkX5_whose_3 rfl dX5_whose_143 ?_
                refine lv_iload_n hx hb dX5_whose_146 rfl (lv_at hl 2 rfl) ?_
                refine lv_iload hx hb dX5_whose_147 (lv_at hl 5 rfl) ?_
                refine xast F hP hD hS 2 (f' := fun j => nI ((updN V 43 i) j)) rfl (by omega) (by omega) (upd_nI V 43 i) dX5_whose_149 (fun H locs hP hD hS => ?_)
                have hP : va_P (eD g) vwCl [(m0, .inr (5, [.ref m1, .ref m2, .ref m3, .int (nI kp), .ref m4, .ref m5, .ref m6, .ref m7, .ref m8, .int (nI rn), .ref m9, .int (nI tn), .int (nI ia), .int (nI wl), .ref m10, .ref m11, .ref m12, .int (nI si), .ref m13, .ref m14])), (m1, .inl (eI g, 7, .inl rf)), (m2, .inl (eI g, 49, .inl (fun j => nI ((updN V 43 i) j)))), (m8, .inl (eI g, 12, .inl (fun j => nI (rw_ j))))] H := hP
                have hD : va_D A [(m0, .inr (5, [.ref m1, .ref m2, .ref m3, .int (nI kp), .ref m4, .ref m5, .ref m6, .ref m7, .ref m8, .int (nI rn), .ref m9, .int (nI tn), .int (nI ia), .int (nI wl), .ref m10, .ref m11, .ref m12, .int (nI si), .ref m13, .ref m14])), (m1, .inl (eI g, 7, .inl rf)), (m2, .inl (eI g, 49, .inl (fun j => nI ((updN V 43 i) j)))), (m8, .inl (eI g, 12, .inl (fun j => nI (rw_ j))))] := hD
                rw [show (updN V 43 i) = (updN S 43 i) from (by obtain ⟨e, he⟩ := hV0; rw [he, updN_2])] at hP hD
                have hP : va_P (eD g) vwCl [(m0, .inr (5, [.ref m1, .ref m2, .ref m3, .int (nI kp), .ref m4, .ref m5, .ref m6, .ref m7, .ref m8, .int (nI rn), .ref m9, .int (nI tn), .int (nI ia), .int (nI wl), .ref m10, .ref m11, .ref m12, .int (nI si), .ref m13, .ref m14])), (m1, .inl (eI g, 7, .inl rf)), (m2, .inl (eI g, 49, .inl (fun j => nI ((updN S 43 i) j)))), (m8, .inl (eI g, 12, .inl (fun j => nI (rw_ j))))] H := hP
                have hD : va_D A [(m0, .inr (5, [.ref m1, .ref m2, .ref m3, .int (nI kp), .ref m4, .ref m5, .ref m6, .ref m7, .ref m8, .int (nI rn), .ref m9, .int (nI tn), .int (nI ia), .int (nI wl), .ref m10, .ref m11, .ref m12, .int (nI si), .ref m13, .ref m14])), (m1, .inl (eI g, 7, .inl rf)), (m2, .inl (eI g, 49, .inl (fun j => nI ((updN S 43 i) j)))), (m8, .inl (eI g, 12, .inl (fun j => nI (rw_ j))))] := hD
                refine lv_iload hx hb dX5_whose_150 (lv_at hl 4 rfl) ?_
                refine lv_aload_n hx hb dX5_whose_152 rfl (lv_at hl 0 rfl) ?_
                refine cVI (As := []) (rest := [.int b]) F (c_X5_isAllSo l g m0 m1 m2 m3 m4 m5 m6 m7 m8 m9 m10 m11 m12 m13 m14 kp rn tn ia wl si (updN S 43 i) rw_ (by first | exact okS_47 hO (by omega) | exact okS_43 hO (by omega)) (hok) (hrn) (hrw)) kX5_isAllSo rfl gX5_whose_X5_isAllSo rfl rfl ⟨Nat.le_of_ble_eq_true rfl, Nat.le_of_ble_eq_true rfl⟩ hP hD hS [0, 2, 3] [1] rfl rfl 0 rfl rfl hl.1 rfl rfl (Nat.le_of_ble_eq_true rfl) dX5_whose_153 ⟨Nat.le_of_ble_eq_true rfl, Nat.le_of_ble_eq_true rfl⟩ (fun rz w1 H locs hpo hP hD hS => ?_)
                obtain ⟨rfl, rfl⟩ := hpo
                obtain ⟨hP, hD⟩ := nx (ws' := [(m0, .inr (5, [.ref m1, .ref m2, .ref m3, .int (nI kp), .ref m4, .ref m5, .ref m6, .ref m7, .ref m8, .int (nI rn), .ref m9, .int (nI tn), .int (nI ia), .int (nI wl), .ref m10, .ref m11, .ref m12, .int (nI si), .ref m13, .ref m14])), (m1, .inl (eI g, 7, .inl rf)), (m2, .inl (eI g, 49, .inl (fun j => nI ((updN S 43 i) j)))), (m8, .inl (eI g, 12, .inl (fun j => nI (rw_ j))))]) hP hD [1, 0, 2, 3] (ndB_ok _ rfl) rfl
                refine bqeq (tgt := 166) hx hb dX5_whose_156 (by decide) (fun c156 => ?_) (fun c156 => ?_)
                · skip
                  refine lv_iconst (v := (nI 0)) hx hb dX5_whose_166 (by decide) ?_
                  refine lv_ior hx hb dX5_whose_167 ?_
                  refine lv_istore (lv' := [(5, .int (b ||| (nI 0))), (0, .ref m0), (1, .int (nI k)), (3, .int (nI 43)), (4, .int (nI (S 43))), (6, .int (nI i))]) hx hb dX5_whose_168 hl (by decide) rfl (fun ls hl => ?_)
                  refine lv_iinc (v := (nI (i + 1))) (lv' := [(6, .int (nI (i + 1))), (5, .int (b ||| (nI 0))), (0, .ref m0), (1, .int (nI k)), (3, .int (nI 43)), (4, .int (nI (S 43)))]) hx hb dX5_whose_170 hl (k := 5) rfl (iincP i 1) (by decide) rfl (fun ls hl => ?_)
                  refine lv_goto (tgt := 127) hx hb dX5_whose_173 (by decide) ?_
                  exact ih127 (i + 1, (b ||| (nI 0)), (updN S 43 i)) (show (b ||| (nI 0)) = bitsI (fun n => decide (toldR (fun v r => tl (S 41) (S 42) n (S 46) (S 47) v r) rw_ rn)) (i + 1) ∧ (i + 1) ≤ 10 ∧ ∃ e, (updN S 43 i) = updN S 43 e from (⟨(or_nI0 b).trans (bits_off (P := (fun n => decide (toldR (fun v r => tl (S 41) (S 42) n (S 46) (S 47) v r) rw_ rn))) hb0 (by have := c156; rw [tlS_43] at this; exact fun q => this (of_decide_eq_true q))), by omega, ⟨i, rfl⟩⟩)) (show 10 - (i + 1) < 10 - i from (by omega)) _ _ _ hP hD hS (lv_sub hl [2, 3, 4, 5, 1, 0] rfl)
                · skip
                  refine lv_iconst (v := (nI 1)) hx hb dX5_whose_159 (by decide) ?_
                  refine lv_iload hx hb dX5_whose_160 (lv_at hl 5 rfl) ?_
                  refine lv_ishl hx hb dX5_whose_162 ?_
                  refine lv_goto (tgt := 167) hx hb dX5_whose_163 (by decide) ?_
                  refine lv_ior hx hb dX5_whose_167 ?_
                  refine lv_istore (lv' := [(5, .int (b ||| ((nI 1) <<< ((nI i) &&& 31)))), (0, .ref m0), (1, .int (nI k)), (3, .int (nI 43)), (4, .int (nI (S 43))), (6, .int (nI i))]) hx hb dX5_whose_168 hl (by decide) rfl (fun ls hl => ?_)
                  refine lv_iinc (v := (nI (i + 1))) (lv' := [(6, .int (nI (i + 1))), (5, .int (b ||| ((nI 1) <<< ((nI i) &&& 31)))), (0, .ref m0), (1, .int (nI k)), (3, .int (nI 43)), (4, .int (nI (S 43)))]) hx hb dX5_whose_170 hl (k := 5) rfl (iincP i 1) (by decide) rfl (fun ls hl => ?_)
                  refine lv_goto (tgt := 127) hx hb dX5_whose_173 (by decide) ?_
                  exact ih127 (i + 1, (b ||| ((nI 1) <<< ((nI i) &&& 31))), (updN S 43 i)) (show (b ||| ((nI 1) <<< ((nI i) &&& 31))) = bitsI (fun n => decide (toldR (fun v r => tl (S 41) (S 42) n (S 46) (S 47) v r) rw_ rn)) (i + 1) ∧ (i + 1) ≤ 10 ∧ ∃ e, (updN S 43 i) = updN S 43 e from (⟨bits_on (P := (fun n => decide (toldR (fun v r => tl (S 41) (S 42) n (S 46) (S 47) v r) rw_ rn))) hb0 (by have := c156; rw [tlS_43] at this; exact decide_eq_true this), by omega, ⟨i, rfl⟩⟩)) (show 10 - (i + 1) < 10 - i from (by omega)) _ _ _ hP hD hS (lv_sub hl [2, 3, 4, 5, 1, 0] rfl)
            · skip
              exfalso; omega
          · skip
            refine lv_bipush (v := (nI 47)) hx hb dX5_whose_105 (by decide) ?_
            refine lv_goto (tgt := 112) hx hb dX5_whose_107 (by decide) ?_
            refine lv_istore_n (lv' := [(3, .int (nI 47)), (0, .ref m0), (1, .int (nI k)), (2, .int (nI z))]) hx hb dX5_whose_112 rfl hl (by decide) rfl (fun ls hl => ?_)
            refine lv_aload_n hx hb dX5_whose_113 rfl (lv_at hl 1 rfl) ?_
            refine xget F hP inX5_whose_X5 0 rfl rfl 1 (by decide) lkX5_whose_3 rfl dX5_whose_114 ?_
            refine lv_iload_n hx hb dX5_whose_117 rfl (lv_at hl 0 rfl) ?_
            refine xald F hP 2 (v := (nI (S 47))) rfl (by omega) (by omega) rfl dX5_whose_118 ?_
            refine lv_istore (lv' := [(4, .int (nI (S 47))), (3, .int (nI 47)), (0, .ref m0), (1, .int (nI k)), (2, .int (nI z))]) hx hb dX5_whose_119 hl (by decide) rfl (fun ls hl => ?_)
            refine lv_iconst (v := (nI 0)) hx hb dX5_whose_121 (by decide) ?_
            refine lv_istore (lv' := [(5, .int (nI 0)), (4, .int (nI (S 47))), (3, .int (nI 47)), (0, .ref m0), (1, .int (nI k)), (2, .int (nI z))]) hx hb dX5_whose_122 hl (by decide) rfl (fun ls hl => ?_)
            refine lv_iconst (v := (nI 0)) hx hb dX5_whose_124 (by decide) ?_
            refine lv_istore (lv' := [(6, .int (nI 0)), (5, .int (nI 0)), (4, .int (nI (S 47))), (3, .int (nI 47)), (0, .ref m0), (1, .int (nI k)), (2, .int (nI z))]) hx hb dX5_whose_125 hl (by decide) rfl (fun ls hl => ?_)
            refine xlo (σ := Nat × Int32 × (Nat → Nat)) 7 (fun xz_ => (fun (i : Nat) (b : Int32) (V : Nat → Nat) => [(0, .ref m0), (1, .int (nI k)), (3, .int (nI 47)), (4, .int (nI (S 47))), (5, .int b), (6, .int (nI i))]) xz_.1 xz_.2.1 xz_.2.2) (fun xz_ => (fun (i : Nat) (b : Int32) (V : Nat → Nat) => [(m0, .inr (5, [.ref m1, .ref m2, .ref m3, .int (nI kp), .ref m4, .ref m5, .ref m6, .ref m7, .ref m8, .int (nI rn), .ref m9, .int (nI tn), .int (nI ia), .int (nI wl), .ref m10, .ref m11, .ref m12, .int (nI si), .ref m13, .ref m14])), (m1, .inl (eI g, 7, .inl rf)), (m2, .inl (eI g, 49, .inl (fun j => nI (V j)))), (m8, .inl (eI g, 12, .inl (fun j => nI (rw_ j))))]) xz_.1 xz_.2.1 xz_.2.2) (fun xz_ => (fun (i : Nat) (b : Int32) (V : Nat → Nat) => b = bitsI (fun n => decide (toldR (fun v r => tl (S 41) (S 42) (S 43) (S 46) n v r) rw_ rn)) i ∧ i ≤ 5 ∧ ∃ e, V = updN S 47 e) xz_.1 xz_.2.1 xz_.2.2) (fun xz_ => (fun (i : Nat) (b : Int32) (V : Nat → Nat) => 5 - i) xz_.1 xz_.2.1 xz_.2.2) (fun xz_ hI ih127 H locs ls hP hD hS hl => ?_) (0, (nI 0), S) (show (nI 0) = bitsI (fun n => decide (toldR (fun v r => tl (S 41) (S 42) (S 43) (S 46) n v r) rw_ rn)) 0 ∧ 0 ≤ 5 ∧ ∃ e, S = updN S 47 e from (⟨rfl, by omega, ⟨S 47, (updN_self _ _).symm⟩⟩)) hP hD hS (lv_sub hl [4, 5, 3, 2, 1, 0] rfl)
            obtain ⟨i, b, V⟩ := xz_
            have hP : va_P (eD g) vwCl [(m0, .inr (5, [.ref m1, .ref m2, .ref m3, .int (nI kp), .ref m4, .ref m5, .ref m6, .ref m7, .ref m8, .int (nI rn), .ref m9, .int (nI tn), .int (nI ia), .int (nI wl), .ref m10, .ref m11, .ref m12, .int (nI si), .ref m13, .ref m14])), (m1, .inl (eI g, 7, .inl rf)), (m2, .inl (eI g, 49, .inl (fun j => nI (V j)))), (m8, .inl (eI g, 12, .inl (fun j => nI (rw_ j))))] H := hP
            have hD : va_D A [(m0, .inr (5, [.ref m1, .ref m2, .ref m3, .int (nI kp), .ref m4, .ref m5, .ref m6, .ref m7, .ref m8, .int (nI rn), .ref m9, .int (nI tn), .int (nI ia), .int (nI wl), .ref m10, .ref m11, .ref m12, .int (nI si), .ref m13, .ref m14])), (m1, .inl (eI g, 7, .inl rf)), (m2, .inl (eI g, 49, .inl (fun j => nI (V j)))), (m8, .inl (eI g, 12, .inl (fun j => nI (rw_ j))))] := hD
            have hl : lv_has ls 7 [(0, .ref m0), (1, .int (nI k)), (3, .int (nI 47)), (4, .int (nI (S 47))), (5, .int b), (6, .int (nI i))] := hl
            have hI127 : b = bitsI (fun n => decide (toldR (fun v r => tl (S 41) (S 42) (S 43) (S 46) n v r) rw_ rn)) i ∧ i ≤ 5 ∧ ∃ e, V = updN S 47 e := hI
            clear hI
            obtain ⟨hb0, hi2, hV0⟩ := id hI127
            refine lv_iload hx hb dX5_whose_127 (lv_at hl 5 rfl) ?_
            refine lv_iload_n hx hb dX5_whose_129 rfl (lv_at hl 1 rfl) ?_
            refine zne (tgt := 137) hx hb dX5_whose_130 (by decide) (by omega) (fun c130 => ?_) (fun c130 => ?_)
            · skip
              exfalso; omega
            · skip
              refine lv_iconst (v := (nI 5)) hx hb dX5_whose_133 (by decide) ?_
              refine lv_goto (tgt := 139) hx hb dX5_whose_134 (by decide) ?_
              refine xge (tgt := 176) hx hb dX5_whose_139 (by decide) (by omega) (by omega) (fun c139 => ?_) (fun c139 => ?_)
              · skip
                refine lv_aload_n hx hb dX5_whose_176 rfl (lv_at hl 0 rfl) ?_
                refine xget F hP inX5_whose_X5 0 rfl rfl 1 (by decide) lkX5_whose_3 rfl dX5_whose_177 ?_
                refine lv_iload_n hx hb dX5_whose_180 rfl (lv_at hl 2 rfl) ?_
                refine lv_iload hx hb dX5_whose_181 (lv_at hl 3 rfl) ?_
                refine xast F hP hD hS 2 (f' := fun j => nI ((updN V 47 (S 47)) j)) rfl (by omega) (by omega) (upd_nI V 47 (S 47)) dX5_whose_183 (fun H locs hP hD hS => ?_)
                have hP : va_P (eD g) vwCl [(m0, .inr (5, [.ref m1, .ref m2, .ref m3, .int (nI kp), .ref m4, .ref m5, .ref m6, .ref m7, .ref m8, .int (nI rn), .ref m9, .int (nI tn), .int (nI ia), .int (nI wl), .ref m10, .ref m11, .ref m12, .int (nI si), .ref m13, .ref m14])), (m1, .inl (eI g, 7, .inl rf)), (m2, .inl (eI g, 49, .inl (fun j => nI ((updN V 47 (S 47)) j)))), (m8, .inl (eI g, 12, .inl (fun j => nI (rw_ j))))] H := hP
                have hD : va_D A [(m0, .inr (5, [.ref m1, .ref m2, .ref m3, .int (nI kp), .ref m4, .ref m5, .ref m6, .ref m7, .ref m8, .int (nI rn), .ref m9, .int (nI tn), .int (nI ia), .int (nI wl), .ref m10, .ref m11, .ref m12, .int (nI si), .ref m13, .ref m14])), (m1, .inl (eI g, 7, .inl rf)), (m2, .inl (eI g, 49, .inl (fun j => nI ((updN V 47 (S 47)) j)))), (m8, .inl (eI g, 12, .inl (fun j => nI (rw_ j))))] := hD
                rw [show (updN V 47 (S 47)) = S from (by obtain ⟨e, he⟩ := hV0; rw [he, updN_2, updN_self])] at hP hD
                have hP : va_P (eD g) vwCl [(m0, .inr (5, [.ref m1, .ref m2, .ref m3, .int (nI kp), .ref m4, .ref m5, .ref m6, .ref m7, .ref m8, .int (nI rn), .ref m9, .int (nI tn), .int (nI ia), .int (nI wl), .ref m10, .ref m11, .ref m12, .int (nI si), .ref m13, .ref m14])), (m1, .inl (eI g, 7, .inl rf)), (m2, .inl (eI g, 49, .inl (fun j => nI ((S) j)))), (m8, .inl (eI g, 12, .inl (fun j => nI (rw_ j))))] H := hP
                have hD : va_D A [(m0, .inr (5, [.ref m1, .ref m2, .ref m3, .int (nI kp), .ref m4, .ref m5, .ref m6, .ref m7, .ref m8, .int (nI rn), .ref m9, .int (nI tn), .int (nI ia), .int (nI wl), .ref m10, .ref m11, .ref m12, .int (nI si), .ref m13, .ref m14])), (m1, .inl (eI g, 7, .inl rf)), (m2, .inl (eI g, 49, .inl (fun j => nI ((S) j)))), (m8, .inl (eI g, 12, .inl (fun j => nI (rw_ j))))] := hD
                refine lv_iload hx hb dX5_whose_184 (lv_at hl 4 rfl) ?_
                exact rtI F hP hD hS dX5_whose_186 (by rw [show (if (nI k).toInt < 0 ∨ 1 < (nI k).toInt then 2 else if okR rw_ rn then 0 else 3) = 0 from (by (try simp only [nI_tI hk_]); rw [if_neg (by omega), if_pos hok])]; exact ⟨by rw [rsp_0, nI_tI hk_, if_pos (by omega), hb0, show i = 5 by omega], rfl⟩)
              · skip
                refine lv_aload_n hx hb dX5_whose_142 rfl (lv_at hl 0 rfl) ?_
                refine xget F hP inX5_whose_X5 0 rfl rfl 1 (by decide) lkX5_whose_3 rfl dX5_whose_143 ?_
                refine lv_iload_n hx hb dX5_whose_146 rfl (lv_at hl 2 rfl) ?_
                refine lv_iload hx hb dX5_whose_147 (lv_at hl 5 rfl) ?_
                refine xast F hP hD hS 2 (f' := fun j => nI ((updN V 47 i) j)) rfl (by omega) (by omega) (upd_nI V 47 i) dX5_whose_149 (fun H locs hP hD hS => ?_)
                have hP : va_P (eD g) vwCl [(m0, .inr (5, [.ref m1, .ref m2, .ref m3, .int (nI kp), .ref m4, .ref m5, .ref m6, .ref m7, .ref m8, .int (nI rn), .ref m9, .int (nI tn), .int (nI ia), .int (nI wl), .ref m10, .ref m11, .ref m12, .int (nI si), .ref m13, .ref m14])), (m1, .inl (eI g, 7, .inl rf)), (m2, .inl (eI g, 49, .inl (fun j => nI ((updN V 47 i) j)))), (m8, .inl (eI g, 12, .inl (fun j => nI (rw_ j))))] H := hP
                have hD : va_D A [(m0, .inr (5, [.ref m1, .ref m2, .ref m3, .int (nI kp), .ref m4, .ref m5, .ref m6, .ref m7, .ref m8, .int (nI rn), .ref m9, .int (nI tn), .int (nI ia), .int (nI wl), .ref m10, .ref m11, .ref m12, .int (nI si), .ref m13, .ref m14])), (m1, .inl (eI g, 7, .inl rf)), (m2, .inl (eI g, 49, .inl (fun j => nI ((updN V 47 i) j)))), (m8, .inl (eI g, 12, .inl (fun j => nI (rw_ j))))] := hD
                rw [show (updN V 47 i) = (updN S 47 i) from (by obtain ⟨e, he⟩ := hV0; rw [he, updN_2])] at hP hD
                have hP : va_P (eD g) vwCl [(m0, .inr (5, [.ref m1, .ref m2, .ref m3, .int (nI kp), .ref m4, .ref m5, .ref m6, .ref m7, .ref m8, .int (nI rn), .ref m9, .int (nI tn), .int (nI ia), .int (nI wl), .ref m10, .ref m11, .ref m12, .int (nI si), .ref m13, .ref m14])), (m1, .inl (eI g, 7, .inl rf)), (m2, .inl (eI g, 49, .inl (fun j => nI ((updN S 47 i) j)))), (m8, .inl (eI g, 12, .inl (fun j => nI (rw_ j))))] H := hP
                have hD : va_D A [(m0, .inr (5, [.ref m1, .ref m2, .ref m3, .int (nI kp), .ref m4, .ref m5, .ref m6, .ref m7, .ref m8, .int (nI rn), .ref m9, .int (nI tn), .int (nI ia), .int (nI wl), .ref m10, .ref m11, .ref m12, .int (nI si), .ref m13, .ref m14])), (m1, .inl (eI g, 7, .inl rf)), (m2, .inl (eI g, 49, .inl (fun j => nI ((updN S 47 i) j)))), (m8, .inl (eI g, 12, .inl (fun j => nI (rw_ j))))] := hD
                refine lv_iload hx hb dX5_whose_150 (lv_at hl 4 rfl) ?_
                refine lv_aload_n hx hb dX5_whose_152 rfl (lv_at hl 0 rfl) ?_
                refine cVI (As := []) (rest := [.int b]) F (c_X5_isAllSo l g m0 m1 m2 m3 m4 m5 m6 m7 m8 m9 m10 m11 m12 m13 m14 kp rn tn ia wl si (updN S 47 i) rw_ (by first | exact okS_47 hO (by omega) | exact okS_43 hO (by omega)) (hok) (hrn) (hrw)) kX5_isAllSo rfl gX5_whose_X5_isAllSo rfl rfl ⟨Nat.le_of_ble_eq_true rfl, Nat.le_of_ble_eq_true rfl⟩ hP hD hS [0, 2, 3] [1] rfl rfl 0 rfl rfl hl.1 rfl rfl (Nat.le_of_ble_eq_true rfl) dX5_whose_153 ⟨Nat.le_of_ble_eq_true rfl, Nat.le_of_ble_eq_true rfl⟩ (fun rz w1 H locs hpo hP hD hS => ?_)
                obtain ⟨rfl, rfl⟩ := hpo
                obtain ⟨hP, hD⟩ := nx (ws' := [(m0, .inr (5, [.ref m1, .ref m2, .ref m3, .int (nI kp), .ref m4, .ref m5, .ref m6, .ref m7, .ref m8, .int (nI rn), .ref m9, .int (nI tn), .int (nI ia), .int (nI wl), .ref m10, .ref m11, .ref m12, .int (nI si), .ref m13, .ref m14])), (m1, .inl (eI g, 7, .inl rf)), (m2, .inl (eI g, 49, .inl (fun j => nI ((updN S 47 i) j)))), (m8, .inl (eI g, 12, .inl (fun j => nI (rw_ j))))]) hP hD [1, 0, 2, 3] (ndB_ok _ rfl) rfl
                refine bqeq (tgt := 166) hx hb dX5_whose_156 (by decide) (fun c156 => ?_) (fun c156 => ?_)
                · skip
                  refine lv_iconst (v := (nI 0)) hx hb dX5_whose_166 (by decide) ?_
                  refine lv_ior hx hb dX5_whose_167 ?_
                  refine lv_istore (lv' := [(5, .int (b ||| (nI 0))), (0, .ref m0), (1, .int (nI k)), (3, .int (nI 47)), (4, .int (nI (S 47))), (6, .int (nI i))]) hx hb dX5_whose_168 hl (by decide) rfl (fun ls hl => ?_)
                  refine lv_iinc (v := (nI (i + 1))) (lv' := [(6, .int (nI (i + 1))), (5, .int (b ||| (nI 0))), (0, .ref m0), (1, .int (nI k)), (3, .int (nI 47)), (4, .int (nI (S 47)))]) hx hb dX5_whose_170 hl (k := 5) rfl (iincP i 1) (by decide) rfl (fun ls hl => ?_)
                  refine lv_goto (tgt := 127) hx hb dX5_whose_173 (by decide) ?_
                  exact ih127 (i + 1, (b ||| (nI 0)), (updN S 47 i)) (show (b ||| (nI 0)) = bitsI (fun n => decide (toldR (fun v r => tl (S 41) (S 42) (S 43) (S 46) n v r) rw_ rn)) (i + 1) ∧ (i + 1) ≤ 5 ∧ ∃ e, (updN S 47 i) = updN S 47 e from (⟨(or_nI0 b).trans (bits_off (P := (fun n => decide (toldR (fun v r => tl (S 41) (S 42) (S 43) (S 46) n v r) rw_ rn))) hb0 (by have := c156; rw [tlS_47] at this; exact fun q => this (of_decide_eq_true q))), by omega, ⟨i, rfl⟩⟩)) (show 5 - (i + 1) < 5 - i from (by omega)) _ _ _ hP hD hS (lv_sub hl [2, 3, 4, 5, 1, 0] rfl)
                · skip
                  refine lv_iconst (v := (nI 1)) hx hb dX5_whose_159 (by decide) ?_
                  refine lv_iload hx hb dX5_whose_160 (lv_at hl 5 rfl) ?_
                  refine lv_ishl hx hb dX5_whose_162 ?_
                  refine lv_goto (tgt := 167) hx hb dX5_whose_163 (by decide) ?_
                  refine lv_ior hx hb dX5_whose_167 ?_
                  refine lv_istore (lv' := [(5, .int (b ||| ((nI 1) <<< ((nI i) &&& 31)))), (0, .ref m0), (1, .int (nI k)), (3, .int (nI 47)), (4, .int (nI (S 47))), (6, .int (nI i))]) hx hb dX5_whose_168 hl (by decide) rfl (fun ls hl => ?_)
                  refine lv_iinc (v := (nI (i + 1))) (lv' := [(6, .int (nI (i + 1))), (5, .int (b ||| ((nI 1) <<< ((nI i) &&& 31)))), (0, .ref m0), (1, .int (nI k)), (3, .int (nI 47)), (4, .int (nI (S 47)))]) hx hb dX5_whose_170 hl (k := 5) rfl (iincP i 1) (by decide) rfl (fun ls hl => ?_)
                  refine lv_goto (tgt := 127) hx hb dX5_whose_173 (by decide) ?_
                  exact ih127 (i + 1, (b ||| ((nI 1) <<< ((nI i) &&& 31))), (updN S 47 i)) (show (b ||| ((nI 1) <<< ((nI i) &&& 31))) = bitsI (fun n => decide (toldR (fun v r => tl (S 41) (S 42) (S 43) (S 46) n v r) rw_ rn)) (i + 1) ∧ (i + 1) ≤ 5 ∧ ∃ e, (updN S 47 i) = updN S 47 e from (⟨bits_on (P := (fun n => decide (toldR (fun v r => tl (S 41) (S 42) (S 43) (S 46) n v r) rw_ rn))) hb0 (by have := c156; rw [tlS_47] at this; exact decide_eq_true this), by omega, ⟨i, rfl⟩⟩)) (show 5 - (i + 1) < 5 - i from (by omega)) _ _ _ hP hD hS (lv_sub hl [2, 3, 4, 5, 1, 0] rfl)
        · skip
          have hok : ¬ okR rw_ rn := fun q => by rcases hz0 with h | h; exact absurd h.1 (by omega); exact h.2 ⟨q.1, fun j hj => q.2 j (by omega)⟩
          refine lv_aload_n hx hb dX5_whose_94 rfl (lv_at hl 0 rfl) ?_
          refine lv_bipush (v := (-3)) hx hb dX5_whose_95 (by decide) ?_
          refine cVI (As := [.int (-3)]) (rest := []) F (c_X5_no l g m0 m1 m2 m3 m4 m5 m6 m7 m8 m9 m10 m11 m12 m13 m14 kp rn tn ia wl si rf (-3) 3 (by decide) (by omega) (by omega)) kX5_no rfl gX5_whose_X5_no rfl rfl ⟨Nat.le_of_ble_eq_true rfl, Nat.le_of_ble_eq_true rfl⟩ hP hD hS [0, 1] [2, 3] rfl rfl 0 rfl rfl hl.1 rfl rfl (Nat.le_of_ble_eq_true rfl) dX5_whose_97 ⟨Nat.le_of_ble_eq_true rfl, Nat.le_of_ble_eq_true rfl⟩ (fun rz w1 H locs hpo hP hD hS => ?_)
          obtain ⟨rfl, rfl⟩ := hpo
          obtain ⟨hP, hD⟩ := nx (ws' := [(m0, .inr (5, [.ref m1, .ref m2, .ref m3, .int (nI kp), .ref m4, .ref m5, .ref m6, .ref m7, .ref m8, .int (nI rn), .ref m9, .int (nI tn), .int (nI ia), .int (nI wl), .ref m10, .ref m11, .ref m12, .int (nI si), .ref m13, .ref m14])), (m1, .inl (eI g, 7, .inl (bump rf 3))), (m2, .inl (eI g, 49, .inl (fun j => nI (S j)))), (m8, .inl (eI g, 12, .inl (fun j => nI (rw_ j))))]) hP hD [2, 3, 0, 1] (ndB_ok _ rfl) rfl
          exact rtI F hP hD hS dX5_whose_100 (by rw [show (if (nI k).toInt < 0 ∨ 1 < (nI k).toInt then 2 else if okR rw_ rn then 0 else 3) = 3 from (by (try simp only [nI_tI hk_]); rw [if_neg (by omega), if_neg hok])]; exact ⟨by rfl, rfl⟩)
      · skip
        refine lv_iload_n hx hb dX5_whose_41 rfl (lv_at hl 2 rfl) ?_
        refine zeq (tgt := 82) hx hb dX5_whose_42 (by decide) (by omega) (fun c42 => ?_) (fun c42 => ?_)
        · skip
          refine lv_iconst (v := (nI 0)) hx hb dX5_whose_82 (by decide) ?_
          refine lv_istore_n (lv' := [(2, .int (nI 0)), (0, .ref m0), (1, .int (nI k)), (3, .int (nI i))]) hx hb dX5_whose_83 rfl hl (by decide) rfl (fun ls hl => ?_)
          refine lv_iinc (v := (nI (i + 1))) (lv' := [(3, .int (nI (i + 1))), (2, .int (nI 0)), (0, .ref m0), (1, .int (nI k))]) hx hb dX5_whose_84 hl (k := 3) rfl (iincP i 1) (by decide) rfl (fun ls hl => ?_)
          refine lv_goto (tgt := 33) hx hb dX5_whose_87 (by decide) ?_
          exact ih33 (i + 1, 0) (show ((0 = 1 ∧ (rn % 3 = 0 ∧ ∀ j, j < (i + 1) → cdR rw_ j)) ∨ (0 = 0 ∧ ¬ (rn % 3 = 0 ∧ ∀ j, j < (i + 1) → cdR rw_ j))) ∧ (i + 1) ≤ rn ∧ 0 ≤ 1 from (⟨Or.inr ⟨rfl, fun q => by rcases hz0 with h | h; exact absurd h.1 (by omega); exact h.2 ⟨q.1, fun j hj => q.2 j (by omega)⟩⟩, by omega, by omega⟩)) (show rn - (i + 1) < rn - i from (by omega)) _ _ _ hP hD hS (lv_sub hl [2, 3, 1, 0] rfl)
        · skip
          have hq1 : (rn % 3 = 0 ∧ ∀ j, j < i → cdR rw_ j) := (hz0.resolve_right (fun q => c42 q.1)).2
          refine lv_iload_n hx hb dX5_whose_45 rfl (lv_at hl 3 rfl) ?_
          refine lv_iconst (v := (nI 3)) hx hb dX5_whose_46 (by decide) ?_
          refine xrem hx hb (by omega) (by omega) (by omega) dX5_whose_47 ?_
          refine lv_iconst (v := (nI 2)) hx hb dX5_whose_48 (by decide) ?_
          refine xne (tgt := 66) hx hb dX5_whose_49 (by decide) (by omega) (by omega) (fun c49 => ?_) (fun c49 => ?_)
          · skip
            refine lv_aload_n hx hb dX5_whose_66 rfl (lv_at hl 0 rfl) ?_
            refine xget F hP inX5_whose_X5 0 rfl rfl 8 (by decide) lkX5_whose_2 rfl dX5_whose_67 ?_
            refine lv_iload_n hx hb dX5_whose_70 rfl (lv_at hl 3 rfl) ?_
            refine xald F hP 3 (v := (nI (rw_ i))) rfl (by omega) (by omega) rfl dX5_whose_71 ?_
            have hbd10 := hrw (i)
            refine cSI (As := [.int (nI (rw_ i))]) (rest := []) F (n_X5_isNoSecond l g (rw_ i) (by omega)) kX5_isNoSecond gX5_whose_X5_isNoSecond rfl rfl ⟨Nat.le_of_ble_eq_true rfl, Nat.le_of_ble_eq_true rfl⟩ hP hD hS [] [0, 1, 2, 3] rfl rfl hl.1 rfl rfl (Nat.le_of_ble_eq_true rfl) dX5_whose_72 ⟨Nat.le_of_ble_eq_true rfl, Nat.le_of_ble_eq_true rfl⟩ (fun rz w1 H locs hpo hP hD hS => ?_)
            obtain ⟨rfl, rfl⟩ := hpo
            obtain ⟨hP, hD⟩ := nx (ws' := [(m0, .inr (5, [.ref m1, .ref m2, .ref m3, .int (nI kp), .ref m4, .ref m5, .ref m6, .ref m7, .ref m8, .int (nI rn), .ref m9, .int (nI tn), .int (nI ia), .int (nI wl), .ref m10, .ref m11, .ref m12, .int (nI si), .ref m13, .ref m14])), (m1, .inl (eI g, 7, .inl rf)), (m2, .inl (eI g, 49, .inl (fun j => nI (S j)))), (m8, .inl (eI g, 12, .inl (fun j => nI (rw_ j))))]) hP hD [0, 1, 2, 3] (ndB_ok _ rfl) rfl
            refine bqne (tgt := 82) hx hb dX5_whose_75 (by decide) (fun c75 => ?_) (fun c75 => ?_)
            · skip
              refine lv_iconst (v := (nI 0)) hx hb dX5_whose_82 (by decide) ?_
              refine lv_istore_n (lv' := [(2, .int (nI 0)), (0, .ref m0), (1, .int (nI k)), (3, .int (nI i))]) hx hb dX5_whose_83 rfl hl (by decide) rfl (fun ls hl => ?_)
              refine lv_iinc (v := (nI (i + 1))) (lv' := [(3, .int (nI (i + 1))), (2, .int (nI 0)), (0, .ref m0), (1, .int (nI k))]) hx hb dX5_whose_84 hl (k := 3) rfl (iincP i 1) (by decide) rfl (fun ls hl => ?_)
              refine lv_goto (tgt := 33) hx hb dX5_whose_87 (by decide) ?_
              exact ih33 (i + 1, 0) (show ((0 = 1 ∧ (rn % 3 = 0 ∧ ∀ j, j < (i + 1) → cdR rw_ j)) ∨ (0 = 0 ∧ ¬ (rn % 3 = 0 ∧ ∀ j, j < (i + 1) → cdR rw_ j))) ∧ (i + 1) ≤ rn ∧ 0 ≤ 1 from (⟨Or.inr ⟨rfl, fun q => by have := cdR_use (q.2 i (by omega)); omega⟩, by omega, by omega⟩)) (show rn - (i + 1) < rn - i from (by omega)) _ _ _ hP hD hS (lv_sub hl [2, 3, 1, 0] rfl)
            · skip
              refine lv_iconst (v := (nI 1)) hx hb dX5_whose_78 (by decide) ?_
              refine lv_goto (tgt := 83) hx hb dX5_whose_79 (by decide) ?_
              refine lv_istore_n (lv' := [(2, .int (nI 1)), (0, .ref m0), (1, .int (nI k)), (3, .int (nI i))]) hx hb dX5_whose_83 rfl hl (by decide) rfl (fun ls hl => ?_)
              refine lv_iinc (v := (nI (i + 1))) (lv' := [(3, .int (nI (i + 1))), (2, .int (nI 1)), (0, .ref m0), (1, .int (nI k))]) hx hb dX5_whose_84 hl (k := 3) rfl (iincP i 1) (by decide) rfl (fun ls hl => ?_)
              refine lv_goto (tgt := 33) hx hb dX5_whose_87 (by decide) ?_
              exact ih33 (i + 1, 1) (show ((1 = 1 ∧ (rn % 3 = 0 ∧ ∀ j, j < (i + 1) → cdR rw_ j)) ∨ (1 = 0 ∧ ¬ (rn % 3 = 0 ∧ ∀ j, j < (i + 1) → cdR rw_ j))) ∧ (i + 1) ≤ rn ∧ 1 ≤ 1 from (⟨Or.inl ⟨rfl, hq1.1, cd_1 hq1.2 (by unfold cdR; rw [if_neg c49]; omega)⟩, by omega, by omega⟩)) (show rn - (i + 1) < rn - i from (by omega)) _ _ _ hP hD hS (lv_sub hl [2, 3, 1, 0] rfl)
          · skip
            refine lv_aload_n hx hb dX5_whose_52 rfl (lv_at hl 0 rfl) ?_
            refine xget F hP inX5_whose_X5 0 rfl rfl 8 (by decide) lkX5_whose_2 rfl dX5_whose_53 ?_
            refine lv_iload_n hx hb dX5_whose_56 rfl (lv_at hl 3 rfl) ?_
            refine xald F hP 3 (v := (nI (rw_ i))) rfl (by omega) (by omega) rfl dX5_whose_57 ?_
            have hbd12 := hrw (i)
            refine lv_bipush (v := (nI 8)) hx hb dX5_whose_58 (by decide) ?_
            refine xgt (tgt := 82) hx hb dX5_whose_60 (by decide) (by omega) (by omega) (fun c60 => ?_) (fun c60 => ?_)
            · skip
              refine lv_iconst (v := (nI 0)) hx hb dX5_whose_82 (by decide) ?_
              refine lv_istore_n (lv' := [(2, .int (nI 0)), (0, .ref m0), (1, .int (nI k)), (3, .int (nI i))]) hx hb dX5_whose_83 rfl hl (by decide) rfl (fun ls hl => ?_)
              refine lv_iinc (v := (nI (i + 1))) (lv' := [(3, .int (nI (i + 1))), (2, .int (nI 0)), (0, .ref m0), (1, .int (nI k))]) hx hb dX5_whose_84 hl (k := 3) rfl (iincP i 1) (by decide) rfl (fun ls hl => ?_)
              refine lv_goto (tgt := 33) hx hb dX5_whose_87 (by decide) ?_
              exact ih33 (i + 1, 0) (show ((0 = 1 ∧ (rn % 3 = 0 ∧ ∀ j, j < (i + 1) → cdR rw_ j)) ∨ (0 = 0 ∧ ¬ (rn % 3 = 0 ∧ ∀ j, j < (i + 1) → cdR rw_ j))) ∧ (i + 1) ≤ rn ∧ 0 ≤ 1 from (⟨Or.inr ⟨rfl, fun q => by have := cdR_use (q.2 i (by omega)); omega⟩, by omega, by omega⟩)) (show rn - (i + 1) < rn - i from (by omega)) _ _ _ hP hD hS (lv_sub hl [2, 3, 1, 0] rfl)
            · skip
              refine lv_goto (tgt := 78) hx hb dX5_whose_63 (by decide) ?_
              refine lv_iconst (v := (nI 1)) hx hb dX5_whose_78 (by decide) ?_
              refine lv_goto (tgt := 83) hx hb dX5_whose_79 (by decide) ?_
              refine lv_istore_n (lv' := [(2, .int (nI 1)), (0, .ref m0), (1, .int (nI k)), (3, .int (nI i))]) hx hb dX5_whose_83 rfl hl (by decide) rfl (fun ls hl => ?_)
              refine lv_iinc (v := (nI (i + 1))) (lv' := [(3, .int (nI (i + 1))), (2, .int (nI 1)), (0, .ref m0), (1, .int (nI k))]) hx hb dX5_whose_84 hl (k := 3) rfl (iincP i 1) (by decide) rfl (fun ls hl => ?_)
              refine lv_goto (tgt := 33) hx hb dX5_whose_87 (by decide) ?_
              exact ih33 (i + 1, 1) (show ((1 = 1 ∧ (rn % 3 = 0 ∧ ∀ j, j < (i + 1) → cdR rw_ j)) ∨ (1 = 0 ∧ ¬ (rn % 3 = 0 ∧ ∀ j, j < (i + 1) → cdR rw_ j))) ∧ (i + 1) ≤ rn ∧ 1 ≤ 1 from (⟨Or.inl ⟨rfl, hq1.1, cd_1 hq1.2 (by unfold cdR; rw [if_pos c49]; exact c60)⟩, by omega, by omega⟩)) (show rn - (i + 1) < rn - i from (by omega)) _ _ _ hP hD hS (lv_sub hl [2, 3, 1, 0] rfl)
  · skip
    refine lv_iload_n hx hb dX5_whose_4 rfl (lv_at hl 1 rfl) ?_
    refine lv_iconst (v := (nI 1)) hx hb dX5_whose_5 (by decide) ?_
    refine yeq (tgt := 16) hx hb dX5_whose_6 (by decide) (by omega) (fun c6 => ?_) (fun c6 => ?_)
    · skip
      obtain ⟨k, hk_, rfl⟩ := natOf (x := x) (by omega)
      try rw [nI_tI hk_] at c1
      try rw [nI_tI hk_] at c6
      refine lv_aload_n hx hb dX5_whose_16 rfl (lv_at hl 0 rfl) ?_
      refine xget F hP inX5_whose_X5 0 rfl rfl 9 (by decide) lkX5_whose_1 rfl dX5_whose_17 ?_
      refine lv_iconst (v := (nI 3)) hx hb dX5_whose_20 (by decide) ?_
      refine xrem hx hb (by omega) (by omega) (by omega) dX5_whose_21 ?_
      refine zne (tgt := 29) hx hb dX5_whose_22 (by decide) (by omega) (fun c22 => ?_) (fun c22 => ?_)
      · skip
        refine lv_iconst (v := (nI 0)) hx hb dX5_whose_29 (by decide) ?_
        refine lv_istore_n (lv' := [(2, .int (nI 0)), (0, .ref m0), (1, .int (nI k))]) hx hb dX5_whose_30 rfl hl (by decide) rfl (fun ls hl => ?_)
        refine lv_iconst (v := (nI 0)) hx hb dX5_whose_31 (by decide) ?_
        refine lv_istore_n (lv' := [(3, .int (nI 0)), (2, .int (nI 0)), (0, .ref m0), (1, .int (nI k))]) hx hb dX5_whose_32 rfl hl (by decide) rfl (fun ls hl => ?_)
        refine xlo (σ := Nat × Nat) 7 (fun xz_ => (fun (i : Nat) (z : Nat) => [(0, .ref m0), (1, .int (nI k)), (2, .int (nI z)), (3, .int (nI i))]) xz_.1 xz_.2) (fun xz_ => (fun (i : Nat) (z : Nat) => [(m0, .inr (5, [.ref m1, .ref m2, .ref m3, .int (nI kp), .ref m4, .ref m5, .ref m6, .ref m7, .ref m8, .int (nI rn), .ref m9, .int (nI tn), .int (nI ia), .int (nI wl), .ref m10, .ref m11, .ref m12, .int (nI si), .ref m13, .ref m14])), (m1, .inl (eI g, 7, .inl rf)), (m2, .inl (eI g, 49, .inl (fun j => nI (S j)))), (m8, .inl (eI g, 12, .inl (fun j => nI (rw_ j))))]) xz_.1 xz_.2) (fun xz_ => (fun (i : Nat) (z : Nat) => ((z = 1 ∧ (rn % 3 = 0 ∧ ∀ j, j < i → cdR rw_ j)) ∨ (z = 0 ∧ ¬ (rn % 3 = 0 ∧ ∀ j, j < i → cdR rw_ j))) ∧ i ≤ rn ∧ z ≤ 1) xz_.1 xz_.2) (fun xz_ => (fun (i : Nat) (z : Nat) => rn - i) xz_.1 xz_.2) (fun xz_ hI ih33 H locs ls hP hD hS hl => ?_) (0, 0) (show ((0 = 1 ∧ (rn % 3 = 0 ∧ ∀ j, j < 0 → cdR rw_ j)) ∨ (0 = 0 ∧ ¬ (rn % 3 = 0 ∧ ∀ j, j < 0 → cdR rw_ j))) ∧ 0 ≤ rn ∧ 0 ≤ 1 from (⟨Or.inr ⟨rfl, fun q => by omega⟩, by omega, by omega⟩)) hP hD hS (lv_sub hl [2, 3, 1, 0] rfl)
        obtain ⟨i, z⟩ := xz_
        have hP : va_P (eD g) vwCl [(m0, .inr (5, [.ref m1, .ref m2, .ref m3, .int (nI kp), .ref m4, .ref m5, .ref m6, .ref m7, .ref m8, .int (nI rn), .ref m9, .int (nI tn), .int (nI ia), .int (nI wl), .ref m10, .ref m11, .ref m12, .int (nI si), .ref m13, .ref m14])), (m1, .inl (eI g, 7, .inl rf)), (m2, .inl (eI g, 49, .inl (fun j => nI (S j)))), (m8, .inl (eI g, 12, .inl (fun j => nI (rw_ j))))] H := hP
        have hD : va_D A [(m0, .inr (5, [.ref m1, .ref m2, .ref m3, .int (nI kp), .ref m4, .ref m5, .ref m6, .ref m7, .ref m8, .int (nI rn), .ref m9, .int (nI tn), .int (nI ia), .int (nI wl), .ref m10, .ref m11, .ref m12, .int (nI si), .ref m13, .ref m14])), (m1, .inl (eI g, 7, .inl rf)), (m2, .inl (eI g, 49, .inl (fun j => nI (S j)))), (m8, .inl (eI g, 12, .inl (fun j => nI (rw_ j))))] := hD
        have hl : lv_has ls 7 [(0, .ref m0), (1, .int (nI k)), (2, .int (nI z)), (3, .int (nI i))] := hl
        have hI33 : ((z = 1 ∧ (rn % 3 = 0 ∧ ∀ j, j < i → cdR rw_ j)) ∨ (z = 0 ∧ ¬ (rn % 3 = 0 ∧ ∀ j, j < i → cdR rw_ j))) ∧ i ≤ rn ∧ z ≤ 1 := hI
        clear hI
        obtain ⟨hz0, hi2, hz1⟩ := id hI33
        refine lv_iload_n hx hb dX5_whose_33 rfl (lv_at hl 3 rfl) ?_
        refine lv_aload_n hx hb dX5_whose_34 rfl (lv_at hl 0 rfl) ?_
        refine xget F hP inX5_whose_X5 0 rfl rfl 9 (by decide) lkX5_whose_1 rfl dX5_whose_35 ?_
        refine xge (tgt := 90) hx hb dX5_whose_38 (by decide) (by omega) (by omega) (fun c38 => ?_) (fun c38 => ?_)
        · skip
          refine lv_iload_n hx hb dX5_whose_90 rfl (lv_at hl 2 rfl) ?_
          refine zne (tgt := 101) hx hb dX5_whose_91 (by decide) (by omega) (fun c91 => ?_) (fun c91 => ?_)
          · skip
            have hok : okR rw_ rn := by rcases hz0 with h | h; exact ⟨h.2.1, fun j hj => h.2.2 j (by omega)⟩; exact absurd h.1 c91
            refine lv_iload_n hx hb dX5_whose_101 rfl (lv_at hl 1 rfl) ?_
            refine zne (tgt := 110) hx hb dX5_whose_102 (by decide) (by omega) (fun c102 => ?_) (fun c102 => ?_)
            · skip
              refine lv_bipush (v := (nI 43)) hx hb dX5_whose_110 (by decide) ?_
              refine lv_istore_n (lv' := [(3, .int (nI 43)), (0, .ref m0), (1, .int (nI k)), (2, .int (nI z))]) hx hb dX5_whose_112 rfl hl (by decide) rfl (fun ls hl => ?_)
              refine lv_aload_n hx hb dX5_whose_113 rfl (lv_at hl 1 rfl) ?_
              refine xget F hP inX5_whose_X5 0 rfl rfl 1 (by decide) lkX5_whose_3 rfl dX5_whose_114 ?_
              refine lv_iload_n hx hb dX5_whose_117 rfl (lv_at hl 0 rfl) ?_
              refine xald F hP 2 (v := (nI (S 43))) rfl (by omega) (by omega) rfl dX5_whose_118 ?_
              refine lv_istore (lv' := [(4, .int (nI (S 43))), (3, .int (nI 43)), (0, .ref m0), (1, .int (nI k)), (2, .int (nI z))]) hx hb dX5_whose_119 hl (by decide) rfl (fun ls hl => ?_)
              refine lv_iconst (v := (nI 0)) hx hb dX5_whose_121 (by decide) ?_
              refine lv_istore (lv' := [(5, .int (nI 0)), (4, .int (nI (S 43))), (3, .int (nI 43)), (0, .ref m0), (1, .int (nI k)), (2, .int (nI z))]) hx hb dX5_whose_122 hl (by decide) rfl (fun ls hl => ?_)
              refine lv_iconst (v := (nI 0)) hx hb dX5_whose_124 (by decide) ?_
              refine lv_istore (lv' := [(6, .int (nI 0)), (5, .int (nI 0)), (4, .int (nI (S 43))), (3, .int (nI 43)), (0, .ref m0), (1, .int (nI k)), (2, .int (nI z))]) hx hb dX5_whose_125 hl (by decide) rfl (fun ls hl => ?_)
              refine xlo (σ := Nat × Int32 × (Nat → Nat)) 7 (fun xz_ => (fun (i : Nat) (b : Int32) (V : Nat → Nat) => [(0, .ref m0), (1, .int (nI k)), (3, .int (nI 43)), (4, .int (nI (S 43))), (5, .int b), (6, .int (nI i))]) xz_.1 xz_.2.1 xz_.2.2) (fun xz_ => (fun (i : Nat) (b : Int32) (V : Nat → Nat) => [(m0, .inr (5, [.ref m1, .ref m2, .ref m3, .int (nI kp), .ref m4, .ref m5, .ref m6, .ref m7, .ref m8, .int (nI rn), .ref m9, .int (nI tn), .int (nI ia), .int (nI wl), .ref m10, .ref m11, .ref m12, .int (nI si), .ref m13, .ref m14])), (m1, .inl (eI g, 7, .inl rf)), (m2, .inl (eI g, 49, .inl (fun j => nI (V j)))), (m8, .inl (eI g, 12, .inl (fun j => nI (rw_ j))))]) xz_.1 xz_.2.1 xz_.2.2) (fun xz_ => (fun (i : Nat) (b : Int32) (V : Nat → Nat) => b = bitsI (fun n => decide (toldR (fun v r => tl (S 41) (S 42) n (S 46) (S 47) v r) rw_ rn)) i ∧ i ≤ 10 ∧ ∃ e, V = updN S 43 e) xz_.1 xz_.2.1 xz_.2.2) (fun xz_ => (fun (i : Nat) (b : Int32) (V : Nat → Nat) => 10 - i) xz_.1 xz_.2.1 xz_.2.2) (fun xz_ hI ih127 H locs ls hP hD hS hl => ?_) (0, (nI 0), S) (show (nI 0) = bitsI (fun n => decide (toldR (fun v r => tl (S 41) (S 42) n (S 46) (S 47) v r) rw_ rn)) 0 ∧ 0 ≤ 10 ∧ ∃ e, S = updN S 43 e from (⟨rfl, by omega, ⟨S 43, (updN_self _ _).symm⟩⟩)) hP hD hS (lv_sub hl [4, 5, 3, 2, 1, 0] rfl)
              obtain ⟨i, b, V⟩ := xz_
              have hP : va_P (eD g) vwCl [(m0, .inr (5, [.ref m1, .ref m2, .ref m3, .int (nI kp), .ref m4, .ref m5, .ref m6, .ref m7, .ref m8, .int (nI rn), .ref m9, .int (nI tn), .int (nI ia), .int (nI wl), .ref m10, .ref m11, .ref m12, .int (nI si), .ref m13, .ref m14])), (m1, .inl (eI g, 7, .inl rf)), (m2, .inl (eI g, 49, .inl (fun j => nI (V j)))), (m8, .inl (eI g, 12, .inl (fun j => nI (rw_ j))))] H := hP
              have hD : va_D A [(m0, .inr (5, [.ref m1, .ref m2, .ref m3, .int (nI kp), .ref m4, .ref m5, .ref m6, .ref m7, .ref m8, .int (nI rn), .ref m9, .int (nI tn), .int (nI ia), .int (nI wl), .ref m10, .ref m11, .ref m12, .int (nI si), .ref m13, .ref m14])), (m1, .inl (eI g, 7, .inl rf)), (m2, .inl (eI g, 49, .inl (fun j => nI (V j)))), (m8, .inl (eI g, 12, .inl (fun j => nI (rw_ j))))] := hD
              have hl : lv_has ls 7 [(0, .ref m0), (1, .int (nI k)), (3, .int (nI 43)), (4, .int (nI (S 43))), (5, .int b), (6, .int (nI i))] := hl
              have hI127 : b = bitsI (fun n => decide (toldR (fun v r => tl (S 41) (S 42) n (S 46) (S 47) v r) rw_ rn)) i ∧ i ≤ 10 ∧ ∃ e, V = updN S 43 e := hI
              clear hI
              obtain ⟨hb0, hi2, hV0⟩ := id hI127
              refine lv_iload hx hb dX5_whose_127 (lv_at hl 5 rfl) ?_
              refine lv_iload_n hx hb dX5_whose_129 rfl (lv_at hl 1 rfl) ?_
              refine zne (tgt := 137) hx hb dX5_whose_130 (by decide) (by omega) (fun c130 => ?_) (fun c130 => ?_)
              · skip
                refine lv_bipush (v := (nI 10)) hx hb dX5_whose_137 (by decide) ?_
                refine xge (tgt := 176) hx hb dX5_whose_139 (by decide) (by omega) (by omega) (fun c139 => ?_) (fun c139 => ?_)
                · skip
                  refine lv_aload_n hx hb dX5_whose_176 rfl (lv_at hl 0 rfl) ?_
                  refine xget F hP inX5_whose_X5 0 rfl rfl 1 (by decide) lkX5_whose_3 rfl dX5_whose_177 ?_
                  refine lv_iload_n hx hb dX5_whose_180 rfl (lv_at hl 2 rfl) ?_
                  refine lv_iload hx hb dX5_whose_181 (lv_at hl 3 rfl) ?_
                  refine xast F hP hD hS 2 (f' := fun j => nI ((updN V 43 (S 43)) j)) rfl (by omega) (by omega) (upd_nI V 43 (S 43)) dX5_whose_183 (fun H locs hP hD hS => ?_)
                  have hP : va_P (eD g) vwCl [(m0, .inr (5, [.ref m1, .ref m2, .ref m3, .int (nI kp), .ref m4, .ref m5, .ref m6, .ref m7, .ref m8, .int (nI rn), .ref m9, .int (nI tn), .int (nI ia), .int (nI wl), .ref m10, .ref m11, .ref m12, .int (nI si), .ref m13, .ref m14])), (m1, .inl (eI g, 7, .inl rf)), (m2, .inl (eI g, 49, .inl (fun j => nI ((updN V 43 (S 43)) j)))), (m8, .inl (eI g, 12, .inl (fun j => nI (rw_ j))))] H := hP
                  have hD : va_D A [(m0, .inr (5, [.ref m1, .ref m2, .ref m3, .int (nI kp), .ref m4, .ref m5, .ref m6, .ref m7, .ref m8, .int (nI rn), .ref m9, .int (nI tn), .int (nI ia), .int (nI wl), .ref m10, .ref m11, .ref m12, .int (nI si), .ref m13, .ref m14])), (m1, .inl (eI g, 7, .inl rf)), (m2, .inl (eI g, 49, .inl (fun j => nI ((updN V 43 (S 43)) j)))), (m8, .inl (eI g, 12, .inl (fun j => nI (rw_ j))))] := hD
                  rw [show (updN V 43 (S 43)) = S from (by obtain ⟨e, he⟩ := hV0; rw [he, updN_2, updN_self])] at hP hD
                  have hP : va_P (eD g) vwCl [(m0, .inr (5, [.ref m1, .ref m2, .ref m3, .int (nI kp), .ref m4, .ref m5, .ref m6, .ref m7, .ref m8, .int (nI rn), .ref m9, .int (nI tn), .int (nI ia), .int (nI wl), .ref m10, .ref m11, .ref m12, .int (nI si), .ref m13, .ref m14])), (m1, .inl (eI g, 7, .inl rf)), (m2, .inl (eI g, 49, .inl (fun j => nI ((S) j)))), (m8, .inl (eI g, 12, .inl (fun j => nI (rw_ j))))] H := hP
                  have hD : va_D A [(m0, .inr (5, [.ref m1, .ref m2, .ref m3, .int (nI kp), .ref m4, .ref m5, .ref m6, .ref m7, .ref m8, .int (nI rn), .ref m9, .int (nI tn), .int (nI ia), .int (nI wl), .ref m10, .ref m11, .ref m12, .int (nI si), .ref m13, .ref m14])), (m1, .inl (eI g, 7, .inl rf)), (m2, .inl (eI g, 49, .inl (fun j => nI ((S) j)))), (m8, .inl (eI g, 12, .inl (fun j => nI (rw_ j))))] := hD
                  refine lv_iload hx hb dX5_whose_184 (lv_at hl 4 rfl) ?_
                  exact rtI F hP hD hS dX5_whose_186 (by rw [show (if (nI k).toInt < 0 ∨ 1 < (nI k).toInt then 2 else if okR rw_ rn then 0 else 3) = 0 from (by (try simp only [nI_tI hk_]); rw [if_neg (by omega), if_pos hok])]; exact ⟨by rw [rsp_0, nI_tI hk_, if_neg (by omega), hb0, show i = 10 by omega], rfl⟩)
                · skip
                  refine lv_aload_n hx hb dX5_whose_142 rfl (lv_at hl 0 rfl) ?_
                  refine xget F hP inX5_whose_X5 0 rfl rfl 1 (by decide) lkX5_whose_3 rfl dX5_whose_143 ?_
                  refine lv_iload_n hx hb dX5_whose_146 rfl (lv_at hl 2 rfl) ?_
                  refine lv_iload hx hb dX5_whose_147 (lv_at hl 5 rfl) ?_
                  refine xast F hP hD hS 2 (f' := fun j => nI ((updN V 43 i) j)) rfl (by omega) (by omega) (upd_nI V 43 i) dX5_whose_149 (fun H locs hP hD hS => ?_)
                  have hP : va_P (eD g) vwCl [(m0, .inr (5, [.ref m1, .ref m2, .ref m3, .int (nI kp), .ref m4, .ref m5, .ref m6, .ref m7, .ref m8, .int (nI rn), .ref m9, .int (nI tn), .int (nI ia), .int (nI wl), .ref m10, .ref m11, .ref m12, .int (nI si), .ref m13, .ref m14])), (m1, .inl (eI g, 7, .inl rf)), (m2, .inl (eI g, 49, .inl (fun j => nI ((updN V 43 i) j)))), (m8, .inl (eI g, 12, .inl (fun j => nI (rw_ j))))] H := hP
                  have hD : va_D A [(m0, .inr (5, [.ref m1, .ref m2, .ref m3, .int (nI kp), .ref m4, .ref m5, .ref m6, .ref m7, .ref m8, .int (nI rn), .ref m9, .int (nI tn), .int (nI ia), .int (nI wl), .ref m10, .ref m11, .ref m12, .int (nI si), .ref m13, .ref m14])), (m1, .inl (eI g, 7, .inl rf)), (m2, .inl (eI g, 49, .inl (fun j => nI ((updN V 43 i) j)))), (m8, .inl (eI g, 12, .inl (fun j => nI (rw_ j))))] := hD
                  rw [show (updN V 43 i) = (updN S 43 i) from (by obtain ⟨e, he⟩ := hV0; rw [he, updN_2])] at hP hD
                  have hP : va_P (eD g) vwCl [(m0, .inr (5, [.ref m1, .ref m2, .ref m3, .int (nI kp), .ref m4, .ref m5, .ref m6, .ref m7, .ref m8, .int (nI rn), .ref m9, .int (nI tn), .int (nI ia), .int (nI wl), .ref m10, .ref m11, .ref m12, .int (nI si), .ref m13, .ref m14])), (m1, .inl (eI g, 7, .inl rf)), (m2, .inl (eI g, 49, .inl (fun j => nI ((updN S 43 i) j)))), (m8, .inl (eI g, 12, .inl (fun j => nI (rw_ j))))] H := hP
                  have hD : va_D A [(m0, .inr (5, [.ref m1, .ref m2, .ref m3, .int (nI kp), .ref m4, .ref m5, .ref m6, .ref m7, .ref m8, .int (nI rn), .ref m9, .int (nI tn), .int (nI ia), .int (nI wl), .ref m10, .ref m11, .ref m12, .int (nI si), .ref m13, .ref m14])), (m1, .inl (eI g, 7, .inl rf)), (m2, .inl (eI g, 49, .inl (fun j => nI ((updN S 43 i) j)))), (m8, .inl (eI g, 12, .inl (fun j => nI (rw_ j))))] := hD
                  refine lv_iload hx hb dX5_whose_150 (lv_at hl 4 rfl) ?_
                  refine lv_aload_n hx hb dX5_whose_152 rfl (lv_at hl 0 rfl) ?_
                  refine cVI (As := []) (rest := [.int b]) F (c_X5_isAllSo l g m0 m1 m2 m3 m4 m5 m6 m7 m8 m9 m10 m11 m12 m13 m14 kp rn tn ia wl si (updN S 43 i) rw_ (by first | exact okS_47 hO (by omega) | exact okS_43 hO (by omega)) (hok) (hrn) (hrw)) kX5_isAllSo rfl gX5_whose_X5_isAllSo rfl rfl ⟨Nat.le_of_ble_eq_true rfl, Nat.le_of_ble_eq_true rfl⟩ hP hD hS [0, 2, 3] [1] rfl rfl 0 rfl rfl hl.1 rfl rfl (Nat.le_of_ble_eq_true rfl) dX5_whose_153 ⟨Nat.le_of_ble_eq_true rfl, Nat.le_of_ble_eq_true rfl⟩ (fun rz w1 H locs hpo hP hD hS => ?_)
                  obtain ⟨rfl, rfl⟩ := hpo
                  obtain ⟨hP, hD⟩ := nx (ws' := [(m0, .inr (5, [.ref m1, .ref m2, .ref m3, .int (nI kp), .ref m4, .ref m5, .ref m6, .ref m7, .ref m8, .int (nI rn), .ref m9, .int (nI tn), .int (nI ia), .int (nI wl), .ref m10, .ref m11, .ref m12, .int (nI si), .ref m13, .ref m14])), (m1, .inl (eI g, 7, .inl rf)), (m2, .inl (eI g, 49, .inl (fun j => nI ((updN S 43 i) j)))), (m8, .inl (eI g, 12, .inl (fun j => nI (rw_ j))))]) hP hD [1, 0, 2, 3] (ndB_ok _ rfl) rfl
                  refine bqeq (tgt := 166) hx hb dX5_whose_156 (by decide) (fun c156 => ?_) (fun c156 => ?_)
                  · skip
                    refine lv_iconst (v := (nI 0)) hx hb dX5_whose_166 (by decide) ?_
                    refine lv_ior hx hb dX5_whose_167 ?_
                    refine lv_istore (lv' := [(5, .int (b ||| (nI 0))), (0, .ref m0), (1, .int (nI k)), (3, .int (nI 43)), (4, .int (nI (S 43))), (6, .int (nI i))]) hx hb dX5_whose_168 hl (by decide) rfl (fun ls hl => ?_)
                    refine lv_iinc (v := (nI (i + 1))) (lv' := [(6, .int (nI (i + 1))), (5, .int (b ||| (nI 0))), (0, .ref m0), (1, .int (nI k)), (3, .int (nI 43)), (4, .int (nI (S 43)))]) hx hb dX5_whose_170 hl (k := 5) rfl (iincP i 1) (by decide) rfl (fun ls hl => ?_)
                    refine lv_goto (tgt := 127) hx hb dX5_whose_173 (by decide) ?_
                    exact ih127 (i + 1, (b ||| (nI 0)), (updN S 43 i)) (show (b ||| (nI 0)) = bitsI (fun n => decide (toldR (fun v r => tl (S 41) (S 42) n (S 46) (S 47) v r) rw_ rn)) (i + 1) ∧ (i + 1) ≤ 10 ∧ ∃ e, (updN S 43 i) = updN S 43 e from (⟨(or_nI0 b).trans (bits_off (P := (fun n => decide (toldR (fun v r => tl (S 41) (S 42) n (S 46) (S 47) v r) rw_ rn))) hb0 (by have := c156; rw [tlS_43] at this; exact fun q => this (of_decide_eq_true q))), by omega, ⟨i, rfl⟩⟩)) (show 10 - (i + 1) < 10 - i from (by omega)) _ _ _ hP hD hS (lv_sub hl [2, 3, 4, 5, 1, 0] rfl)
                  · skip
                    refine lv_iconst (v := (nI 1)) hx hb dX5_whose_159 (by decide) ?_
                    refine lv_iload hx hb dX5_whose_160 (lv_at hl 5 rfl) ?_
                    refine lv_ishl hx hb dX5_whose_162 ?_
                    refine lv_goto (tgt := 167) hx hb dX5_whose_163 (by decide) ?_
                    refine lv_ior hx hb dX5_whose_167 ?_
                    refine lv_istore (lv' := [(5, .int (b ||| ((nI 1) <<< ((nI i) &&& 31)))), (0, .ref m0), (1, .int (nI k)), (3, .int (nI 43)), (4, .int (nI (S 43))), (6, .int (nI i))]) hx hb dX5_whose_168 hl (by decide) rfl (fun ls hl => ?_)
                    refine lv_iinc (v := (nI (i + 1))) (lv' := [(6, .int (nI (i + 1))), (5, .int (b ||| ((nI 1) <<< ((nI i) &&& 31)))), (0, .ref m0), (1, .int (nI k)), (3, .int (nI 43)), (4, .int (nI (S 43)))]) hx hb dX5_whose_170 hl (k := 5) rfl (iincP i 1) (by decide) rfl (fun ls hl => ?_)
                    refine lv_goto (tgt := 127) hx hb dX5_whose_173 (by decide) ?_
                    exact ih127 (i + 1, (b ||| ((nI 1) <<< ((nI i) &&& 31))), (updN S 43 i)) (show (b ||| ((nI 1) <<< ((nI i) &&& 31))) = bitsI (fun n => decide (toldR (fun v r => tl (S 41) (S 42) n (S 46) (S 47) v r) rw_ rn)) (i + 1) ∧ (i + 1) ≤ 10 ∧ ∃ e, (updN S 43 i) = updN S 43 e from (⟨bits_on (P := (fun n => decide (toldR (fun v r => tl (S 41) (S 42) n (S 46) (S 47) v r) rw_ rn))) hb0 (by have := c156; rw [tlS_43] at this; exact decide_eq_true this), by omega, ⟨i, rfl⟩⟩)) (show 10 - (i + 1) < 10 - i from (by omega)) _ _ _ hP hD hS (lv_sub hl [2, 3, 4, 5, 1, 0] rfl)
              · skip
                exfalso; omega
            · skip
              refine lv_bipush (v := (nI 47)) hx hb dX5_whose_105 (by decide) ?_
              refine lv_goto (tgt := 112) hx hb dX5_whose_107 (by decide) ?_
              refine lv_istore_n (lv' := [(3, .int (nI 47)), (0, .ref m0), (1, .int (nI k)), (2, .int (nI z))]) hx hb dX5_whose_112 rfl hl (by decide) rfl (fun ls hl => ?_)
              refine lv_aload_n hx hb dX5_whose_113 rfl (lv_at hl 1 rfl) ?_
              refine xget F hP inX5_whose_X5 0 rfl rfl 1 (by decide) lkX5_whose_3 rfl dX5_whose_114 ?_
              refine lv_iload_n hx hb dX5_whose_117 rfl (lv_at hl 0 rfl) ?_
              refine xald F hP 2 (v := (nI (S 47))) rfl (by omega) (by omega) rfl dX5_whose_118 ?_
              refine lv_istore (lv' := [(4, .int (nI (S 47))), (3, .int (nI 47)), (0, .ref m0), (1, .int (nI k)), (2, .int (nI z))]) hx hb dX5_whose_119 hl (by decide) rfl (fun ls hl => ?_)
              refine lv_iconst (v := (nI 0)) hx hb dX5_whose_121 (by decide) ?_
              refine lv_istore (lv' := [(5, .int (nI 0)), (4, .int (nI (S 47))), (3, .int (nI 47)), (0, .ref m0), (1, .int (nI k)), (2, .int (nI z))]) hx hb dX5_whose_122 hl (by decide) rfl (fun ls hl => ?_)
              refine lv_iconst (v := (nI 0)) hx hb dX5_whose_124 (by decide) ?_
              refine lv_istore (lv' := [(6, .int (nI 0)), (5, .int (nI 0)), (4, .int (nI (S 47))), (3, .int (nI 47)), (0, .ref m0), (1, .int (nI k)), (2, .int (nI z))]) hx hb dX5_whose_125 hl (by decide) rfl (fun ls hl => ?_)
              refine xlo (σ := Nat × Int32 × (Nat → Nat)) 7 (fun xz_ => (fun (i : Nat) (b : Int32) (V : Nat → Nat) => [(0, .ref m0), (1, .int (nI k)), (3, .int (nI 47)), (4, .int (nI (S 47))), (5, .int b), (6, .int (nI i))]) xz_.1 xz_.2.1 xz_.2.2) (fun xz_ => (fun (i : Nat) (b : Int32) (V : Nat → Nat) => [(m0, .inr (5, [.ref m1, .ref m2, .ref m3, .int (nI kp), .ref m4, .ref m5, .ref m6, .ref m7, .ref m8, .int (nI rn), .ref m9, .int (nI tn), .int (nI ia), .int (nI wl), .ref m10, .ref m11, .ref m12, .int (nI si), .ref m13, .ref m14])), (m1, .inl (eI g, 7, .inl rf)), (m2, .inl (eI g, 49, .inl (fun j => nI (V j)))), (m8, .inl (eI g, 12, .inl (fun j => nI (rw_ j))))]) xz_.1 xz_.2.1 xz_.2.2) (fun xz_ => (fun (i : Nat) (b : Int32) (V : Nat → Nat) => b = bitsI (fun n => decide (toldR (fun v r => tl (S 41) (S 42) (S 43) (S 46) n v r) rw_ rn)) i ∧ i ≤ 5 ∧ ∃ e, V = updN S 47 e) xz_.1 xz_.2.1 xz_.2.2) (fun xz_ => (fun (i : Nat) (b : Int32) (V : Nat → Nat) => 5 - i) xz_.1 xz_.2.1 xz_.2.2) (fun xz_ hI ih127 H locs ls hP hD hS hl => ?_) (0, (nI 0), S) (show (nI 0) = bitsI (fun n => decide (toldR (fun v r => tl (S 41) (S 42) (S 43) (S 46) n v r) rw_ rn)) 0 ∧ 0 ≤ 5 ∧ ∃ e, S = updN S 47 e from (⟨rfl, by omega, ⟨S 47, (updN_self _ _).symm⟩⟩)) hP hD hS (lv_sub hl [4, 5, 3, 2, 1, 0] rfl)
              obtain ⟨i, b, V⟩ := xz_
              have hP : va_P (eD g) vwCl [(m0, .inr (5, [.ref m1, .ref m2, .ref m3, .int (nI kp), .ref m4, .ref m5, .ref m6, .ref m7, .ref m8, .int (nI rn), .ref m9, .int (nI tn), .int (nI ia), .int (nI wl), .ref m10, .ref m11, .ref m12, .int (nI si), .ref m13, .ref m14])), (m1, .inl (eI g, 7, .inl rf)), (m2, .inl (eI g, 49, .inl (fun j => nI (V j)))), (m8, .inl (eI g, 12, .inl (fun j => nI (rw_ j))))] H := hP
              have hD : va_D A [(m0, .inr (5, [.ref m1, .ref m2, .ref m3, .int (nI kp), .ref m4, .ref m5, .ref m6, .ref m7, .ref m8, .int (nI rn), .ref m9, .int (nI tn), .int (nI ia), .int (nI wl), .ref m10, .ref m11, .ref m12, .int (nI si), .ref m13, .ref m14])), (m1, .inl (eI g, 7, .inl rf)), (m2, .inl (eI g, 49, .inl (fun j => nI (V j)))), (m8, .inl (eI g, 12, .inl (fun j => nI (rw_ j))))] := hD
              have hl : lv_has ls 7 [(0, .ref m0), (1, .int (nI k)), (3, .int (nI 47)), (4, .int (nI (S 47))), (5, .int b), (6, .int (nI i))] := hl
              have hI127 : b = bitsI (fun n => decide (toldR (fun v r => tl (S 41) (S 42) (S 43) (S 46) n v r) rw_ rn)) i ∧ i ≤ 5 ∧ ∃ e, V = updN S 47 e := hI
              clear hI
              obtain ⟨hb0, hi2, hV0⟩ := id hI127
              refine lv_iload hx hb dX5_whose_127 (lv_at hl 5 rfl) ?_
              refine lv_iload_n hx hb dX5_whose_129 rfl (lv_at hl 1 rfl) ?_
              refine zne (tgt := 137) hx hb dX5_whose_130 (by decide) (by omega) (fun c130 => ?_) (fun c130 => ?_)
              · skip
                exfalso; omega
              · skip
                refine lv_iconst (v := (nI 5)) hx hb dX5_whose_133 (by decide) ?_
                refine lv_goto (tgt := 139) hx hb dX5_whose_134 (by decide) ?_
                refine xge (tgt := 176) hx hb dX5_whose_139 (by decide) (by omega) (by omega) (fun c139 => ?_) (fun c139 => ?_)
                · skip
                  refine lv_aload_n hx hb dX5_whose_176 rfl (lv_at hl 0 rfl) ?_
                  refine xget F hP inX5_whose_X5 0 rfl rfl 1 (by decide) lkX5_whose_3 rfl dX5_whose_177 ?_
                  refine lv_iload_n hx hb dX5_whose_180 rfl (lv_at hl 2 rfl) ?_
                  refine lv_iload hx hb dX5_whose_181 (lv_at hl 3 rfl) ?_
                  refine xast F hP hD hS 2 (f' := fun j => nI ((updN V 47 (S 47)) j)) rfl (by omega) (by omega) (upd_nI V 47 (S 47)) dX5_whose_183 (fun H locs hP hD hS => ?_)
                  have hP : va_P (eD g) vwCl [(m0, .inr (5, [.ref m1, .ref m2, .ref m3, .int (nI kp), .ref m4, .ref m5, .ref m6, .ref m7, .ref m8, .int (nI rn), .ref m9, .int (nI tn), .int (nI ia), .int (nI wl), .ref m10, .ref m11, .ref m12, .int (nI si), .ref m13, .ref m14])), (m1, .inl (eI g, 7, .inl rf)), (m2, .inl (eI g, 49, .inl (fun j => nI ((updN V 47 (S 47)) j)))), (m8, .inl (eI g, 12, .inl (fun j => nI (rw_ j))))] H := hP
                  have hD : va_D A [(m0, .inr (5, [.ref m1, .ref m2, .ref m3, .int (nI kp), .ref m4, .ref m5, .ref m6, .ref m7, .ref m8, .int (nI rn), .ref m9, .int (nI tn), .int (nI ia), .int (nI wl), .ref m10, .ref m11, .ref m12, .int (nI si), .ref m13, .ref m14])), (m1, .inl (eI g, 7, .inl rf)), (m2, .inl (eI g, 49, .inl (fun j => nI ((updN V 47 (S 47)) j)))), (m8, .inl (eI g, 12, .inl (fun j => nI (rw_ j))))] := hD
                  rw [show (updN V 47 (S 47)) = S from (by obtain ⟨e, he⟩ := hV0; rw [he, updN_2, updN_self])] at hP hD
                  have hP : va_P (eD g) vwCl [(m0, .inr (5, [.ref m1, .ref m2, .ref m3, .int (nI kp), .ref m4, .ref m5, .ref m6, .ref m7, .ref m8, .int (nI rn), .ref m9, .int (nI tn), .int (nI ia), .int (nI wl), .ref m10, .ref m11, .ref m12, .int (nI si), .ref m13, .ref m14])), (m1, .inl (eI g, 7, .inl rf)), (m2, .inl (eI g, 49, .inl (fun j => nI ((S) j)))), (m8, .inl (eI g, 12, .inl (fun j => nI (rw_ j))))] H := hP
                  have hD : va_D A [(m0, .inr (5, [.ref m1, .ref m2, .ref m3, .int (nI kp), .ref m4, .ref m5, .ref m6, .ref m7, .ref m8, .int (nI rn), .ref m9, .int (nI tn), .int (nI ia), .int (nI wl), .ref m10, .ref m11, .ref m12, .int (nI si), .ref m13, .ref m14])), (m1, .inl (eI g, 7, .inl rf)), (m2, .inl (eI g, 49, .inl (fun j => nI ((S) j)))), (m8, .inl (eI g, 12, .inl (fun j => nI (rw_ j))))] := hD
                  refine lv_iload hx hb dX5_whose_184 (lv_at hl 4 rfl) ?_
                  exact rtI F hP hD hS dX5_whose_186 (by rw [show (if (nI k).toInt < 0 ∨ 1 < (nI k).toInt then 2 else if okR rw_ rn then 0 else 3) = 0 from (by (try simp only [nI_tI hk_]); rw [if_neg (by omega), if_pos hok])]; exact ⟨by rw [rsp_0, nI_tI hk_, if_pos (by omega), hb0, show i = 5 by omega], rfl⟩)
                · skip
                  refine lv_aload_n hx hb dX5_whose_142 rfl (lv_at hl 0 rfl) ?_
                  refine xget F hP inX5_whose_X5 0 rfl rfl 1 (by decide) lkX5_whose_3 rfl dX5_whose_143 ?_
                  refine lv_iload_n hx hb dX5_whose_146 rfl (lv_at hl 2 rfl) ?_
                  refine lv_iload hx hb dX5_whose_147 (lv_at hl 5 rfl) ?_
                  refine xast F hP hD hS 2 (f' := fun j => nI ((updN V 47 i) j)) rfl (by omega) (by omega) (upd_nI V 47 i) dX5_whose_149 (fun H locs hP hD hS => ?_)
                  have hP : va_P (eD g) vwCl [(m0, .inr (5, [.ref m1, .ref m2, .ref m3, .int (nI kp), .ref m4, .ref m5, .ref m6, .ref m7, .ref m8, .int (nI rn), .ref m9, .int (nI tn), .int (nI ia), .int (nI wl), .ref m10, .ref m11, .ref m12, .int (nI si), .ref m13, .ref m14])), (m1, .inl (eI g, 7, .inl rf)), (m2, .inl (eI g, 49, .inl (fun j => nI ((updN V 47 i) j)))), (m8, .inl (eI g, 12, .inl (fun j => nI (rw_ j))))] H := hP
                  have hD : va_D A [(m0, .inr (5, [.ref m1, .ref m2, .ref m3, .int (nI kp), .ref m4, .ref m5, .ref m6, .ref m7, .ref m8, .int (nI rn), .ref m9, .int (nI tn), .int (nI ia), .int (nI wl), .ref m10, .ref m11, .ref m12, .int (nI si), .ref m13, .ref m14])), (m1, .inl (eI g, 7, .inl rf)), (m2, .inl (eI g, 49, .inl (fun j => nI ((updN V 47 i) j)))), (m8, .inl (eI g, 12, .inl (fun j => nI (rw_ j))))] := hD
                  rw [show (updN V 47 i) = (updN S 47 i) from (by obtain ⟨e, he⟩ := hV0; rw [he, updN_2])] at hP hD
                  have hP : va_P (eD g) vwCl [(m0, .inr (5, [.ref m1, .ref m2, .ref m3, .int (nI kp), .ref m4, .ref m5, .ref m6, .ref m7, .ref m8, .int (nI rn), .ref m9, .int (nI tn), .int (nI ia), .int (nI wl), .ref m10, .ref m11, .ref m12, .int (nI si), .ref m13, .ref m14])), (m1, .inl (eI g, 7, .inl rf)), (m2, .inl (eI g, 49, .inl (fun j => nI ((updN S 47 i) j)))), (m8, .inl (eI g, 12, .inl (fun j => nI (rw_ j))))] H := hP
                  have hD : va_D A [(m0, .inr (5, [.ref m1, .ref m2, .ref m3, .int (nI kp), .ref m4, .ref m5, .ref m6, .ref m7, .ref m8, .int (nI rn), .ref m9, .int (nI tn), .int (nI ia), .int (nI wl), .ref m10, .ref m11, .ref m12, .int (nI si), .ref m13, .ref m14])), (m1, .inl (eI g, 7, .inl rf)), (m2, .inl (eI g, 49, .inl (fun j => nI ((updN S 47 i) j)))), (m8, .inl (eI g, 12, .inl (fun j => nI (rw_ j))))] := hD
                  refine lv_iload hx hb dX5_whose_150 (lv_at hl 4 rfl) ?_
                  refine lv_aload_n hx hb dX5_whose_152 rfl (lv_at hl 0 rfl) ?_
                  refine cVI (As := []) (rest := [.int b]) F (c_X5_isAllSo l g m0 m1 m2 m3 m4 m5 m6 m7 m8 m9 m10 m11 m12 m13 m14 kp rn tn ia wl si (updN S 47 i) rw_ (by first | exact okS_47 hO (by omega) | exact okS_43 hO (by omega)) (hok) (hrn) (hrw)) kX5_isAllSo rfl gX5_whose_X5_isAllSo rfl rfl ⟨Nat.le_of_ble_eq_true rfl, Nat.le_of_ble_eq_true rfl⟩ hP hD hS [0, 2, 3] [1] rfl rfl 0 rfl rfl hl.1 rfl rfl (Nat.le_of_ble_eq_true rfl) dX5_whose_153 ⟨Nat.le_of_ble_eq_true rfl, Nat.le_of_ble_eq_true rfl⟩ (fun rz w1 H locs hpo hP hD hS => ?_)
                  obtain ⟨rfl, rfl⟩ := hpo
                  obtain ⟨hP, hD⟩ := nx (ws' := [(m0, .inr (5, [.ref m1, .ref m2, .ref m3, .int (nI kp), .ref m4, .ref m5, .ref m6, .ref m7, .ref m8, .int (nI rn), .ref m9, .int (nI tn), .int (nI ia), .int (nI wl), .ref m10, .ref m11, .ref m12, .int (nI si), .ref m13, .ref m14])), (m1, .inl (eI g, 7, .inl rf)), (m2, .inl (eI g, 49, .inl (fun j => nI ((updN S 47 i) j)))), (m8, .inl (eI g, 12, .inl (fun j => nI (rw_ j))))]) hP hD [1, 0, 2, 3] (ndB_ok _ rfl) rfl
                  refine bqeq (tgt := 166) hx hb dX5_whose_156 (by decide) (fun c156 => ?_) (fun c156 => ?_)
                  · skip
                    refine lv_iconst (v := (nI 0)) hx hb dX5_whose_166 (by decide) ?_
                    refine lv_ior hx hb dX5_whose_167 ?_
                    refine lv_istore (lv' := [(5, .int (b ||| (nI 0))), (0, .ref m0), (1, .int (nI k)), (3, .int (nI 47)), (4, .int (nI (S 47))), (6, .int (nI i))]) hx hb dX5_whose_168 hl (by decide) rfl (fun ls hl => ?_)
                    refine lv_iinc (v := (nI (i + 1))) (lv' := [(6, .int (nI (i + 1))), (5, .int (b ||| (nI 0))), (0, .ref m0), (1, .int (nI k)), (3, .int (nI 47)), (4, .int (nI (S 47)))]) hx hb dX5_whose_170 hl (k := 5) rfl (iincP i 1) (by decide) rfl (fun ls hl => ?_)
                    refine lv_goto (tgt := 127) hx hb dX5_whose_173 (by decide) ?_
                    exact ih127 (i + 1, (b ||| (nI 0)), (updN S 47 i)) (show (b ||| (nI 0)) = bitsI (fun n => decide (toldR (fun v r => tl (S 41) (S 42) (S 43) (S 46) n v r) rw_ rn)) (i + 1) ∧ (i + 1) ≤ 5 ∧ ∃ e, (updN S 47 i) = updN S 47 e from (⟨(or_nI0 b).trans (bits_off (P := (fun n => decide (toldR (fun v r => tl (S 41) (S 42) (S 43) (S 46) n v r) rw_ rn))) hb0 (by have := c156; rw [tlS_47] at this; exact fun q => this (of_decide_eq_true q))), by omega, ⟨i, rfl⟩⟩)) (show 5 - (i + 1) < 5 - i from (by omega)) _ _ _ hP hD hS (lv_sub hl [2, 3, 4, 5, 1, 0] rfl)
                  · skip
                    refine lv_iconst (v := (nI 1)) hx hb dX5_whose_159 (by decide) ?_
                    refine lv_iload hx hb dX5_whose_160 (lv_at hl 5 rfl) ?_
                    refine lv_ishl hx hb dX5_whose_162 ?_
                    refine lv_goto (tgt := 167) hx hb dX5_whose_163 (by decide) ?_
                    refine lv_ior hx hb dX5_whose_167 ?_
                    refine lv_istore (lv' := [(5, .int (b ||| ((nI 1) <<< ((nI i) &&& 31)))), (0, .ref m0), (1, .int (nI k)), (3, .int (nI 47)), (4, .int (nI (S 47))), (6, .int (nI i))]) hx hb dX5_whose_168 hl (by decide) rfl (fun ls hl => ?_)
                    refine lv_iinc (v := (nI (i + 1))) (lv' := [(6, .int (nI (i + 1))), (5, .int (b ||| ((nI 1) <<< ((nI i) &&& 31)))), (0, .ref m0), (1, .int (nI k)), (3, .int (nI 47)), (4, .int (nI (S 47)))]) hx hb dX5_whose_170 hl (k := 5) rfl (iincP i 1) (by decide) rfl (fun ls hl => ?_)
                    refine lv_goto (tgt := 127) hx hb dX5_whose_173 (by decide) ?_
                    exact ih127 (i + 1, (b ||| ((nI 1) <<< ((nI i) &&& 31))), (updN S 47 i)) (show (b ||| ((nI 1) <<< ((nI i) &&& 31))) = bitsI (fun n => decide (toldR (fun v r => tl (S 41) (S 42) (S 43) (S 46) n v r) rw_ rn)) (i + 1) ∧ (i + 1) ≤ 5 ∧ ∃ e, (updN S 47 i) = updN S 47 e from (⟨bits_on (P := (fun n => decide (toldR (fun v r => tl (S 41) (S 42) (S 43) (S 46) n v r) rw_ rn))) hb0 (by have := c156; rw [tlS_47] at this; exact decide_eq_true this), by omega, ⟨i, rfl⟩⟩)) (show 5 - (i + 1) < 5 - i from (by omega)) _ _ _ hP hD hS (lv_sub hl [2, 3, 4, 5, 1, 0] rfl)
          · skip
            have hok : ¬ okR rw_ rn := fun q => by rcases hz0 with h | h; exact absurd h.1 (by omega); exact h.2 ⟨q.1, fun j hj => q.2 j (by omega)⟩
            refine lv_aload_n hx hb dX5_whose_94 rfl (lv_at hl 0 rfl) ?_
            refine lv_bipush (v := (-3)) hx hb dX5_whose_95 (by decide) ?_
            refine cVI (As := [.int (-3)]) (rest := []) F (c_X5_no l g m0 m1 m2 m3 m4 m5 m6 m7 m8 m9 m10 m11 m12 m13 m14 kp rn tn ia wl si rf (-3) 3 (by decide) (by omega) (by omega)) kX5_no rfl gX5_whose_X5_no rfl rfl ⟨Nat.le_of_ble_eq_true rfl, Nat.le_of_ble_eq_true rfl⟩ hP hD hS [0, 1] [2, 3] rfl rfl 0 rfl rfl hl.1 rfl rfl (Nat.le_of_ble_eq_true rfl) dX5_whose_97 ⟨Nat.le_of_ble_eq_true rfl, Nat.le_of_ble_eq_true rfl⟩ (fun rz w1 H locs hpo hP hD hS => ?_)
            obtain ⟨rfl, rfl⟩ := hpo
            obtain ⟨hP, hD⟩ := nx (ws' := [(m0, .inr (5, [.ref m1, .ref m2, .ref m3, .int (nI kp), .ref m4, .ref m5, .ref m6, .ref m7, .ref m8, .int (nI rn), .ref m9, .int (nI tn), .int (nI ia), .int (nI wl), .ref m10, .ref m11, .ref m12, .int (nI si), .ref m13, .ref m14])), (m1, .inl (eI g, 7, .inl (bump rf 3))), (m2, .inl (eI g, 49, .inl (fun j => nI (S j)))), (m8, .inl (eI g, 12, .inl (fun j => nI (rw_ j))))]) hP hD [2, 3, 0, 1] (ndB_ok _ rfl) rfl
            exact rtI F hP hD hS dX5_whose_100 (by rw [show (if (nI k).toInt < 0 ∨ 1 < (nI k).toInt then 2 else if okR rw_ rn then 0 else 3) = 3 from (by (try simp only [nI_tI hk_]); rw [if_neg (by omega), if_neg hok])]; exact ⟨by rfl, rfl⟩)
        · skip
          refine lv_iload_n hx hb dX5_whose_41 rfl (lv_at hl 2 rfl) ?_
          refine zeq (tgt := 82) hx hb dX5_whose_42 (by decide) (by omega) (fun c42 => ?_) (fun c42 => ?_)
          · skip
            refine lv_iconst (v := (nI 0)) hx hb dX5_whose_82 (by decide) ?_
            refine lv_istore_n (lv' := [(2, .int (nI 0)), (0, .ref m0), (1, .int (nI k)), (3, .int (nI i))]) hx hb dX5_whose_83 rfl hl (by decide) rfl (fun ls hl => ?_)
            refine lv_iinc (v := (nI (i + 1))) (lv' := [(3, .int (nI (i + 1))), (2, .int (nI 0)), (0, .ref m0), (1, .int (nI k))]) hx hb dX5_whose_84 hl (k := 3) rfl (iincP i 1) (by decide) rfl (fun ls hl => ?_)
            refine lv_goto (tgt := 33) hx hb dX5_whose_87 (by decide) ?_
            exact ih33 (i + 1, 0) (show ((0 = 1 ∧ (rn % 3 = 0 ∧ ∀ j, j < (i + 1) → cdR rw_ j)) ∨ (0 = 0 ∧ ¬ (rn % 3 = 0 ∧ ∀ j, j < (i + 1) → cdR rw_ j))) ∧ (i + 1) ≤ rn ∧ 0 ≤ 1 from (⟨Or.inr ⟨rfl, fun q => by rcases hz0 with h | h; exact absurd h.1 (by omega); exact h.2 ⟨q.1, fun j hj => q.2 j (by omega)⟩⟩, by omega, by omega⟩)) (show rn - (i + 1) < rn - i from (by omega)) _ _ _ hP hD hS (lv_sub hl [2, 3, 1, 0] rfl)
          · skip
            have hq1 : (rn % 3 = 0 ∧ ∀ j, j < i → cdR rw_ j) := (hz0.resolve_right (fun q => c42 q.1)).2
            refine lv_iload_n hx hb dX5_whose_45 rfl (lv_at hl 3 rfl) ?_
            refine lv_iconst (v := (nI 3)) hx hb dX5_whose_46 (by decide) ?_
            refine xrem hx hb (by omega) (by omega) (by omega) dX5_whose_47 ?_
            refine lv_iconst (v := (nI 2)) hx hb dX5_whose_48 (by decide) ?_
            refine xne (tgt := 66) hx hb dX5_whose_49 (by decide) (by omega) (by omega) (fun c49 => ?_) (fun c49 => ?_)
            · skip
              refine lv_aload_n hx hb dX5_whose_66 rfl (lv_at hl 0 rfl) ?_
              refine xget F hP inX5_whose_X5 0 rfl rfl 8 (by decide) lkX5_whose_2 rfl dX5_whose_67 ?_
              refine lv_iload_n hx hb dX5_whose_70 rfl (lv_at hl 3 rfl) ?_
              refine xald F hP 3 (v := (nI (rw_ i))) rfl (by omega) (by omega) rfl dX5_whose_71 ?_
              have hbd16 := hrw (i)
              refine cSI (As := [.int (nI (rw_ i))]) (rest := []) F (n_X5_isNoSecond l g (rw_ i) (by omega)) kX5_isNoSecond gX5_whose_X5_isNoSecond rfl rfl ⟨Nat.le_of_ble_eq_true rfl, Nat.le_of_ble_eq_true rfl⟩ hP hD hS [] [0, 1, 2, 3] rfl rfl hl.1 rfl rfl (Nat.le_of_ble_eq_true rfl) dX5_whose_72 ⟨Nat.le_of_ble_eq_true rfl, Nat.le_of_ble_eq_true rfl⟩ (fun rz w1 H locs hpo hP hD hS => ?_)
              obtain ⟨rfl, rfl⟩ := hpo
              obtain ⟨hP, hD⟩ := nx (ws' := [(m0, .inr (5, [.ref m1, .ref m2, .ref m3, .int (nI kp), .ref m4, .ref m5, .ref m6, .ref m7, .ref m8, .int (nI rn), .ref m9, .int (nI tn), .int (nI ia), .int (nI wl), .ref m10, .ref m11, .ref m12, .int (nI si), .ref m13, .ref m14])), (m1, .inl (eI g, 7, .inl rf)), (m2, .inl (eI g, 49, .inl (fun j => nI (S j)))), (m8, .inl (eI g, 12, .inl (fun j => nI (rw_ j))))]) hP hD [0, 1, 2, 3] (ndB_ok _ rfl) rfl
              refine bqne (tgt := 82) hx hb dX5_whose_75 (by decide) (fun c75 => ?_) (fun c75 => ?_)
              · skip
                refine lv_iconst (v := (nI 0)) hx hb dX5_whose_82 (by decide) ?_
                refine lv_istore_n (lv' := [(2, .int (nI 0)), (0, .ref m0), (1, .int (nI k)), (3, .int (nI i))]) hx hb dX5_whose_83 rfl hl (by decide) rfl (fun ls hl => ?_)
                refine lv_iinc (v := (nI (i + 1))) (lv' := [(3, .int (nI (i + 1))), (2, .int (nI 0)), (0, .ref m0), (1, .int (nI k))]) hx hb dX5_whose_84 hl (k := 3) rfl (iincP i 1) (by decide) rfl (fun ls hl => ?_)
                refine lv_goto (tgt := 33) hx hb dX5_whose_87 (by decide) ?_
                exact ih33 (i + 1, 0) (show ((0 = 1 ∧ (rn % 3 = 0 ∧ ∀ j, j < (i + 1) → cdR rw_ j)) ∨ (0 = 0 ∧ ¬ (rn % 3 = 0 ∧ ∀ j, j < (i + 1) → cdR rw_ j))) ∧ (i + 1) ≤ rn ∧ 0 ≤ 1 from (⟨Or.inr ⟨rfl, fun q => by have := cdR_use (q.2 i (by omega)); omega⟩, by omega, by omega⟩)) (show rn - (i + 1) < rn - i from (by omega)) _ _ _ hP hD hS (lv_sub hl [2, 3, 1, 0] rfl)
              · skip
                refine lv_iconst (v := (nI 1)) hx hb dX5_whose_78 (by decide) ?_
                refine lv_goto (tgt := 83) hx hb dX5_whose_79 (by decide) ?_
                refine lv_istore_n (lv' := [(2, .int (nI 1)), (0, .ref m0), (1, .int (nI k)), (3, .int (nI i))]) hx hb dX5_whose_83 rfl hl (by decide) rfl (fun ls hl => ?_)
                refine lv_iinc (v := (nI (i + 1))) (lv' := [(3, .int (nI (i + 1))), (2, .int (nI 1)), (0, .ref m0), (1, .int (nI k))]) hx hb dX5_whose_84 hl (k := 3) rfl (iincP i 1) (by decide) rfl (fun ls hl => ?_)
                refine lv_goto (tgt := 33) hx hb dX5_whose_87 (by decide) ?_
                exact ih33 (i + 1, 1) (show ((1 = 1 ∧ (rn % 3 = 0 ∧ ∀ j, j < (i + 1) → cdR rw_ j)) ∨ (1 = 0 ∧ ¬ (rn % 3 = 0 ∧ ∀ j, j < (i + 1) → cdR rw_ j))) ∧ (i + 1) ≤ rn ∧ 1 ≤ 1 from (⟨Or.inl ⟨rfl, hq1.1, cd_1 hq1.2 (by unfold cdR; rw [if_neg c49]; omega)⟩, by omega, by omega⟩)) (show rn - (i + 1) < rn - i from (by omega)) _ _ _ hP hD hS (lv_sub hl [2, 3, 1, 0] rfl)
            · skip
              refine lv_aload_n hx hb dX5_whose_52 rfl (lv_at hl 0 rfl) ?_
              refine xget F hP inX5_whose_X5 0 rfl rfl 8 (by decide) lkX5_whose_2 rfl dX5_whose_53 ?_
              refine lv_iload_n hx hb dX5_whose_56 rfl (lv_at hl 3 rfl) ?_
              refine xald F hP 3 (v := (nI (rw_ i))) rfl (by omega) (by omega) rfl dX5_whose_57 ?_
              have hbd18 := hrw (i)
              refine lv_bipush (v := (nI 8)) hx hb dX5_whose_58 (by decide) ?_
              refine xgt (tgt := 82) hx hb dX5_whose_60 (by decide) (by omega) (by omega) (fun c60 => ?_) (fun c60 => ?_)
              · skip
                refine lv_iconst (v := (nI 0)) hx hb dX5_whose_82 (by decide) ?_
                refine lv_istore_n (lv' := [(2, .int (nI 0)), (0, .ref m0), (1, .int (nI k)), (3, .int (nI i))]) hx hb dX5_whose_83 rfl hl (by decide) rfl (fun ls hl => ?_)
                refine lv_iinc (v := (nI (i + 1))) (lv' := [(3, .int (nI (i + 1))), (2, .int (nI 0)), (0, .ref m0), (1, .int (nI k))]) hx hb dX5_whose_84 hl (k := 3) rfl (iincP i 1) (by decide) rfl (fun ls hl => ?_)
                refine lv_goto (tgt := 33) hx hb dX5_whose_87 (by decide) ?_
                exact ih33 (i + 1, 0) (show ((0 = 1 ∧ (rn % 3 = 0 ∧ ∀ j, j < (i + 1) → cdR rw_ j)) ∨ (0 = 0 ∧ ¬ (rn % 3 = 0 ∧ ∀ j, j < (i + 1) → cdR rw_ j))) ∧ (i + 1) ≤ rn ∧ 0 ≤ 1 from (⟨Or.inr ⟨rfl, fun q => by have := cdR_use (q.2 i (by omega)); omega⟩, by omega, by omega⟩)) (show rn - (i + 1) < rn - i from (by omega)) _ _ _ hP hD hS (lv_sub hl [2, 3, 1, 0] rfl)
              · skip
                refine lv_goto (tgt := 78) hx hb dX5_whose_63 (by decide) ?_
                refine lv_iconst (v := (nI 1)) hx hb dX5_whose_78 (by decide) ?_
                refine lv_goto (tgt := 83) hx hb dX5_whose_79 (by decide) ?_
                refine lv_istore_n (lv' := [(2, .int (nI 1)), (0, .ref m0), (1, .int (nI k)), (3, .int (nI i))]) hx hb dX5_whose_83 rfl hl (by decide) rfl (fun ls hl => ?_)
                refine lv_iinc (v := (nI (i + 1))) (lv' := [(3, .int (nI (i + 1))), (2, .int (nI 1)), (0, .ref m0), (1, .int (nI k))]) hx hb dX5_whose_84 hl (k := 3) rfl (iincP i 1) (by decide) rfl (fun ls hl => ?_)
                refine lv_goto (tgt := 33) hx hb dX5_whose_87 (by decide) ?_
                exact ih33 (i + 1, 1) (show ((1 = 1 ∧ (rn % 3 = 0 ∧ ∀ j, j < (i + 1) → cdR rw_ j)) ∨ (1 = 0 ∧ ¬ (rn % 3 = 0 ∧ ∀ j, j < (i + 1) → cdR rw_ j))) ∧ (i + 1) ≤ rn ∧ 1 ≤ 1 from (⟨Or.inl ⟨rfl, hq1.1, cd_1 hq1.2 (by unfold cdR; rw [if_pos c49]; exact c60)⟩, by omega, by omega⟩)) (show rn - (i + 1) < rn - i from (by omega)) _ _ _ hP hD hS (lv_sub hl [2, 3, 1, 0] rfl)
      · skip
        refine lv_iconst (v := (nI 1)) hx hb dX5_whose_25 (by decide) ?_
        refine lv_goto (tgt := 30) hx hb dX5_whose_26 (by decide) ?_
        refine lv_istore_n (lv' := [(2, .int (nI 1)), (0, .ref m0), (1, .int (nI k))]) hx hb dX5_whose_30 rfl hl (by decide) rfl (fun ls hl => ?_)
        refine lv_iconst (v := (nI 0)) hx hb dX5_whose_31 (by decide) ?_
        refine lv_istore_n (lv' := [(3, .int (nI 0)), (2, .int (nI 1)), (0, .ref m0), (1, .int (nI k))]) hx hb dX5_whose_32 rfl hl (by decide) rfl (fun ls hl => ?_)
        refine xlo (σ := Nat × Nat) 7 (fun xz_ => (fun (i : Nat) (z : Nat) => [(0, .ref m0), (1, .int (nI k)), (2, .int (nI z)), (3, .int (nI i))]) xz_.1 xz_.2) (fun xz_ => (fun (i : Nat) (z : Nat) => [(m0, .inr (5, [.ref m1, .ref m2, .ref m3, .int (nI kp), .ref m4, .ref m5, .ref m6, .ref m7, .ref m8, .int (nI rn), .ref m9, .int (nI tn), .int (nI ia), .int (nI wl), .ref m10, .ref m11, .ref m12, .int (nI si), .ref m13, .ref m14])), (m1, .inl (eI g, 7, .inl rf)), (m2, .inl (eI g, 49, .inl (fun j => nI (S j)))), (m8, .inl (eI g, 12, .inl (fun j => nI (rw_ j))))]) xz_.1 xz_.2) (fun xz_ => (fun (i : Nat) (z : Nat) => ((z = 1 ∧ (rn % 3 = 0 ∧ ∀ j, j < i → cdR rw_ j)) ∨ (z = 0 ∧ ¬ (rn % 3 = 0 ∧ ∀ j, j < i → cdR rw_ j))) ∧ i ≤ rn ∧ z ≤ 1) xz_.1 xz_.2) (fun xz_ => (fun (i : Nat) (z : Nat) => rn - i) xz_.1 xz_.2) (fun xz_ hI ih33 H locs ls hP hD hS hl => ?_) (0, 1) (show ((1 = 1 ∧ (rn % 3 = 0 ∧ ∀ j, j < 0 → cdR rw_ j)) ∨ (1 = 0 ∧ ¬ (rn % 3 = 0 ∧ ∀ j, j < 0 → cdR rw_ j))) ∧ 0 ≤ rn ∧ 1 ≤ 1 from (⟨Or.inl ⟨rfl, by omega, fun j hj => absurd hj (Nat.not_lt_zero _)⟩, by omega, by omega⟩)) hP hD hS (lv_sub hl [2, 3, 1, 0] rfl)
        obtain ⟨i, z⟩ := xz_
        have hP : va_P (eD g) vwCl [(m0, .inr (5, [.ref m1, .ref m2, .ref m3, .int (nI kp), .ref m4, .ref m5, .ref m6, .ref m7, .ref m8, .int (nI rn), .ref m9, .int (nI tn), .int (nI ia), .int (nI wl), .ref m10, .ref m11, .ref m12, .int (nI si), .ref m13, .ref m14])), (m1, .inl (eI g, 7, .inl rf)), (m2, .inl (eI g, 49, .inl (fun j => nI (S j)))), (m8, .inl (eI g, 12, .inl (fun j => nI (rw_ j))))] H := hP
        have hD : va_D A [(m0, .inr (5, [.ref m1, .ref m2, .ref m3, .int (nI kp), .ref m4, .ref m5, .ref m6, .ref m7, .ref m8, .int (nI rn), .ref m9, .int (nI tn), .int (nI ia), .int (nI wl), .ref m10, .ref m11, .ref m12, .int (nI si), .ref m13, .ref m14])), (m1, .inl (eI g, 7, .inl rf)), (m2, .inl (eI g, 49, .inl (fun j => nI (S j)))), (m8, .inl (eI g, 12, .inl (fun j => nI (rw_ j))))] := hD
        have hl : lv_has ls 7 [(0, .ref m0), (1, .int (nI k)), (2, .int (nI z)), (3, .int (nI i))] := hl
        have hI33 : ((z = 1 ∧ (rn % 3 = 0 ∧ ∀ j, j < i → cdR rw_ j)) ∨ (z = 0 ∧ ¬ (rn % 3 = 0 ∧ ∀ j, j < i → cdR rw_ j))) ∧ i ≤ rn ∧ z ≤ 1 := hI
        clear hI
        obtain ⟨hz0, hi2, hz1⟩ := id hI33
        refine lv_iload_n hx hb dX5_whose_33 rfl (lv_at hl 3 rfl) ?_
        refine lv_aload_n hx hb dX5_whose_34 rfl (lv_at hl 0 rfl) ?_
        refine xget F hP inX5_whose_X5 0 rfl rfl 9 (by decide) lkX5_whose_1 rfl dX5_whose_35 ?_
        refine xge (tgt := 90) hx hb dX5_whose_38 (by decide) (by omega) (by omega) (fun c38 => ?_) (fun c38 => ?_)
        · skip
          refine lv_iload_n hx hb dX5_whose_90 rfl (lv_at hl 2 rfl) ?_
          refine zne (tgt := 101) hx hb dX5_whose_91 (by decide) (by omega) (fun c91 => ?_) (fun c91 => ?_)
          · skip
            have hok : okR rw_ rn := by rcases hz0 with h | h; exact ⟨h.2.1, fun j hj => h.2.2 j (by omega)⟩; exact absurd h.1 c91
            refine lv_iload_n hx hb dX5_whose_101 rfl (lv_at hl 1 rfl) ?_
            refine zne (tgt := 110) hx hb dX5_whose_102 (by decide) (by omega) (fun c102 => ?_) (fun c102 => ?_)
            · skip
              refine lv_bipush (v := (nI 43)) hx hb dX5_whose_110 (by decide) ?_
              refine lv_istore_n (lv' := [(3, .int (nI 43)), (0, .ref m0), (1, .int (nI k)), (2, .int (nI z))]) hx hb dX5_whose_112 rfl hl (by decide) rfl (fun ls hl => ?_)
              refine lv_aload_n hx hb dX5_whose_113 rfl (lv_at hl 1 rfl) ?_
              refine xget F hP inX5_whose_X5 0 rfl rfl 1 (by decide) lkX5_whose_3 rfl dX5_whose_114 ?_
              refine lv_iload_n hx hb dX5_whose_117 rfl (lv_at hl 0 rfl) ?_
              refine xald F hP 2 (v := (nI (S 43))) rfl (by omega) (by omega) rfl dX5_whose_118 ?_
              refine lv_istore (lv' := [(4, .int (nI (S 43))), (3, .int (nI 43)), (0, .ref m0), (1, .int (nI k)), (2, .int (nI z))]) hx hb dX5_whose_119 hl (by decide) rfl (fun ls hl => ?_)
              refine lv_iconst (v := (nI 0)) hx hb dX5_whose_121 (by decide) ?_
              refine lv_istore (lv' := [(5, .int (nI 0)), (4, .int (nI (S 43))), (3, .int (nI 43)), (0, .ref m0), (1, .int (nI k)), (2, .int (nI z))]) hx hb dX5_whose_122 hl (by decide) rfl (fun ls hl => ?_)
              refine lv_iconst (v := (nI 0)) hx hb dX5_whose_124 (by decide) ?_
              refine lv_istore (lv' := [(6, .int (nI 0)), (5, .int (nI 0)), (4, .int (nI (S 43))), (3, .int (nI 43)), (0, .ref m0), (1, .int (nI k)), (2, .int (nI z))]) hx hb dX5_whose_125 hl (by decide) rfl (fun ls hl => ?_)
              refine xlo (σ := Nat × Int32 × (Nat → Nat)) 7 (fun xz_ => (fun (i : Nat) (b : Int32) (V : Nat → Nat) => [(0, .ref m0), (1, .int (nI k)), (3, .int (nI 43)), (4, .int (nI (S 43))), (5, .int b), (6, .int (nI i))]) xz_.1 xz_.2.1 xz_.2.2) (fun xz_ => (fun (i : Nat) (b : Int32) (V : Nat → Nat) => [(m0, .inr (5, [.ref m1, .ref m2, .ref m3, .int (nI kp), .ref m4, .ref m5, .ref m6, .ref m7, .ref m8, .int (nI rn), .ref m9, .int (nI tn), .int (nI ia), .int (nI wl), .ref m10, .ref m11, .ref m12, .int (nI si), .ref m13, .ref m14])), (m1, .inl (eI g, 7, .inl rf)), (m2, .inl (eI g, 49, .inl (fun j => nI (V j)))), (m8, .inl (eI g, 12, .inl (fun j => nI (rw_ j))))]) xz_.1 xz_.2.1 xz_.2.2) (fun xz_ => (fun (i : Nat) (b : Int32) (V : Nat → Nat) => b = bitsI (fun n => decide (toldR (fun v r => tl (S 41) (S 42) n (S 46) (S 47) v r) rw_ rn)) i ∧ i ≤ 10 ∧ ∃ e, V = updN S 43 e) xz_.1 xz_.2.1 xz_.2.2) (fun xz_ => (fun (i : Nat) (b : Int32) (V : Nat → Nat) => 10 - i) xz_.1 xz_.2.1 xz_.2.2) (fun xz_ hI ih127 H locs ls hP hD hS hl => ?_) (0, (nI 0), S) (show (nI 0) = bitsI (fun n => decide (toldR (fun v r => tl (S 41) (S 42) n (S 46) (S 47) v r) rw_ rn)) 0 ∧ 0 ≤ 10 ∧ ∃ e, S = updN S 43 e from (⟨rfl, by omega, ⟨S 43, (updN_self _ _).symm⟩⟩)) hP hD hS (lv_sub hl [4, 5, 3, 2, 1, 0] rfl)
              obtain ⟨i, b, V⟩ := xz_
              have hP : va_P (eD g) vwCl [(m0, .inr (5, [.ref m1, .ref m2, .ref m3, .int (nI kp), .ref m4, .ref m5, .ref m6, .ref m7, .ref m8, .int (nI rn), .ref m9, .int (nI tn), .int (nI ia), .int (nI wl), .ref m10, .ref m11, .ref m12, .int (nI si), .ref m13, .ref m14])), (m1, .inl (eI g, 7, .inl rf)), (m2, .inl (eI g, 49, .inl (fun j => nI (V j)))), (m8, .inl (eI g, 12, .inl (fun j => nI (rw_ j))))] H := hP
              have hD : va_D A [(m0, .inr (5, [.ref m1, .ref m2, .ref m3, .int (nI kp), .ref m4, .ref m5, .ref m6, .ref m7, .ref m8, .int (nI rn), .ref m9, .int (nI tn), .int (nI ia), .int (nI wl), .ref m10, .ref m11, .ref m12, .int (nI si), .ref m13, .ref m14])), (m1, .inl (eI g, 7, .inl rf)), (m2, .inl (eI g, 49, .inl (fun j => nI (V j)))), (m8, .inl (eI g, 12, .inl (fun j => nI (rw_ j))))] := hD
              have hl : lv_has ls 7 [(0, .ref m0), (1, .int (nI k)), (3, .int (nI 43)), (4, .int (nI (S 43))), (5, .int b), (6, .int (nI i))] := hl
              have hI127 : b = bitsI (fun n => decide (toldR (fun v r => tl (S 41) (S 42) n (S 46) (S 47) v r) rw_ rn)) i ∧ i ≤ 10 ∧ ∃ e, V = updN S 43 e := hI
              clear hI
              obtain ⟨hb0, hi2, hV0⟩ := id hI127
              refine lv_iload hx hb dX5_whose_127 (lv_at hl 5 rfl) ?_
              refine lv_iload_n hx hb dX5_whose_129 rfl (lv_at hl 1 rfl) ?_
              refine zne (tgt := 137) hx hb dX5_whose_130 (by decide) (by omega) (fun c130 => ?_) (fun c130 => ?_)
              · skip
                refine lv_bipush (v := (nI 10)) hx hb dX5_whose_137 (by decide) ?_
                refine xge (tgt := 176) hx hb dX5_whose_139 (by decide) (by omega) (by omega) (fun c139 => ?_) (fun c139 => ?_)
                · skip
                  refine lv_aload_n hx hb dX5_whose_176 rfl (lv_at hl 0 rfl) ?_
                  refine xget F hP inX5_whose_X5 0 rfl rfl 1 (by decide) lkX5_whose_3 rfl dX5_whose_177 ?_
                  refine lv_iload_n hx hb dX5_whose_180 rfl (lv_at hl 2 rfl) ?_
                  refine lv_iload hx hb dX5_whose_181 (lv_at hl 3 rfl) ?_
                  refine xast F hP hD hS 2 (f' := fun j => nI ((updN V 43 (S 43)) j)) rfl (by omega) (by omega) (upd_nI V 43 (S 43)) dX5_whose_183 (fun H locs hP hD hS => ?_)
                  have hP : va_P (eD g) vwCl [(m0, .inr (5, [.ref m1, .ref m2, .ref m3, .int (nI kp), .ref m4, .ref m5, .ref m6, .ref m7, .ref m8, .int (nI rn), .ref m9, .int (nI tn), .int (nI ia), .int (nI wl), .ref m10, .ref m11, .ref m12, .int (nI si), .ref m13, .ref m14])), (m1, .inl (eI g, 7, .inl rf)), (m2, .inl (eI g, 49, .inl (fun j => nI ((updN V 43 (S 43)) j)))), (m8, .inl (eI g, 12, .inl (fun j => nI (rw_ j))))] H := hP
                  have hD : va_D A [(m0, .inr (5, [.ref m1, .ref m2, .ref m3, .int (nI kp), .ref m4, .ref m5, .ref m6, .ref m7, .ref m8, .int (nI rn), .ref m9, .int (nI tn), .int (nI ia), .int (nI wl), .ref m10, .ref m11, .ref m12, .int (nI si), .ref m13, .ref m14])), (m1, .inl (eI g, 7, .inl rf)), (m2, .inl (eI g, 49, .inl (fun j => nI ((updN V 43 (S 43)) j)))), (m8, .inl (eI g, 12, .inl (fun j => nI (rw_ j))))] := hD
                  rw [show (updN V 43 (S 43)) = S from (by obtain ⟨e, he⟩ := hV0; rw [he, updN_2, updN_self])] at hP hD
                  have hP : va_P (eD g) vwCl [(m0, .inr (5, [.ref m1, .ref m2, .ref m3, .int (nI kp), .ref m4, .ref m5, .ref m6, .ref m7, .ref m8, .int (nI rn), .ref m9, .int (nI tn), .int (nI ia), .int (nI wl), .ref m10, .ref m11, .ref m12, .int (nI si), .ref m13, .ref m14])), (m1, .inl (eI g, 7, .inl rf)), (m2, .inl (eI g, 49, .inl (fun j => nI ((S) j)))), (m8, .inl (eI g, 12, .inl (fun j => nI (rw_ j))))] H := hP
                  have hD : va_D A [(m0, .inr (5, [.ref m1, .ref m2, .ref m3, .int (nI kp), .ref m4, .ref m5, .ref m6, .ref m7, .ref m8, .int (nI rn), .ref m9, .int (nI tn), .int (nI ia), .int (nI wl), .ref m10, .ref m11, .ref m12, .int (nI si), .ref m13, .ref m14])), (m1, .inl (eI g, 7, .inl rf)), (m2, .inl (eI g, 49, .inl (fun j => nI ((S) j)))), (m8, .inl (eI g, 12, .inl (fun j => nI (rw_ j))))] := hD
                  refine lv_iload hx hb dX5_whose_184 (lv_at hl 4 rfl) ?_
                  exact rtI F hP hD hS dX5_whose_186 (by rw [show (if (nI k).toInt < 0 ∨ 1 < (nI k).toInt then 2 else if okR rw_ rn then 0 else 3) = 0 from (by (try simp only [nI_tI hk_]); rw [if_neg (by omega), if_pos hok])]; exact ⟨by rw [rsp_0, nI_tI hk_, if_neg (by omega), hb0, show i = 10 by omega], rfl⟩)
                · skip
                  refine lv_aload_n hx hb dX5_whose_142 rfl (lv_at hl 0 rfl) ?_
                  refine xget F hP inX5_whose_X5 0 rfl rfl 1 (by decide) lkX5_whose_3 rfl dX5_whose_143 ?_
                  refine lv_iload_n hx hb dX5_whose_146 rfl (lv_at hl 2 rfl) ?_
                  refine lv_iload hx hb dX5_whose_147 (lv_at hl 5 rfl) ?_
                  refine xast F hP hD hS 2 (f' := fun j => nI ((updN V 43 i) j)) rfl (by omega) (by omega) (upd_nI V 43 i) dX5_whose_149 (fun H locs hP hD hS => ?_)
                  have hP : va_P (eD g) vwCl [(m0, .inr (5, [.ref m1, .ref m2, .ref m3, .int (nI kp), .ref m4, .ref m5, .ref m6, .ref m7, .ref m8, .int (nI rn), .ref m9, .int (nI tn), .int (nI ia), .int (nI wl), .ref m10, .ref m11, .ref m12, .int (nI si), .ref m13, .ref m14])), (m1, .inl (eI g, 7, .inl rf)), (m2, .inl (eI g, 49, .inl (fun j => nI ((updN V 43 i) j)))), (m8, .inl (eI g, 12, .inl (fun j => nI (rw_ j))))] H := hP
                  have hD : va_D A [(m0, .inr (5, [.ref m1, .ref m2, .ref m3, .int (nI kp), .ref m4, .ref m5, .ref m6, .ref m7, .ref m8, .int (nI rn), .ref m9, .int (nI tn), .int (nI ia), .int (nI wl), .ref m10, .ref m11, .ref m12, .int (nI si), .ref m13, .ref m14])), (m1, .inl (eI g, 7, .inl rf)), (m2, .inl (eI g, 49, .inl (fun j => nI ((updN V 43 i) j)))), (m8, .inl (eI g, 12, .inl (fun j => nI (rw_ j))))] := hD
                  rw [show (updN V 43 i) = (updN S 43 i) from (by obtain ⟨e, he⟩ := hV0; rw [he, updN_2])] at hP hD
                  have hP : va_P (eD g) vwCl [(m0, .inr (5, [.ref m1, .ref m2, .ref m3, .int (nI kp), .ref m4, .ref m5, .ref m6, .ref m7, .ref m8, .int (nI rn), .ref m9, .int (nI tn), .int (nI ia), .int (nI wl), .ref m10, .ref m11, .ref m12, .int (nI si), .ref m13, .ref m14])), (m1, .inl (eI g, 7, .inl rf)), (m2, .inl (eI g, 49, .inl (fun j => nI ((updN S 43 i) j)))), (m8, .inl (eI g, 12, .inl (fun j => nI (rw_ j))))] H := hP
                  have hD : va_D A [(m0, .inr (5, [.ref m1, .ref m2, .ref m3, .int (nI kp), .ref m4, .ref m5, .ref m6, .ref m7, .ref m8, .int (nI rn), .ref m9, .int (nI tn), .int (nI ia), .int (nI wl), .ref m10, .ref m11, .ref m12, .int (nI si), .ref m13, .ref m14])), (m1, .inl (eI g, 7, .inl rf)), (m2, .inl (eI g, 49, .inl (fun j => nI ((updN S 43 i) j)))), (m8, .inl (eI g, 12, .inl (fun j => nI (rw_ j))))] := hD
                  refine lv_iload hx hb dX5_whose_150 (lv_at hl 4 rfl) ?_
                  refine lv_aload_n hx hb dX5_whose_152 rfl (lv_at hl 0 rfl) ?_
                  refine cVI (As := []) (rest := [.int b]) F (c_X5_isAllSo l g m0 m1 m2 m3 m4 m5 m6 m7 m8 m9 m10 m11 m12 m13 m14 kp rn tn ia wl si (updN S 43 i) rw_ (by first | exact okS_47 hO (by omega) | exact okS_43 hO (by omega)) (hok) (hrn) (hrw)) kX5_isAllSo rfl gX5_whose_X5_isAllSo rfl rfl ⟨Nat.le_of_ble_eq_true rfl, Nat.le_of_ble_eq_true rfl⟩ hP hD hS [0, 2, 3] [1] rfl rfl 0 rfl rfl hl.1 rfl rfl (Nat.le_of_ble_eq_true rfl) dX5_whose_153 ⟨Nat.le_of_ble_eq_true rfl, Nat.le_of_ble_eq_true rfl⟩ (fun rz w1 H locs hpo hP hD hS => ?_)
                  obtain ⟨rfl, rfl⟩ := hpo
                  obtain ⟨hP, hD⟩ := nx (ws' := [(m0, .inr (5, [.ref m1, .ref m2, .ref m3, .int (nI kp), .ref m4, .ref m5, .ref m6, .ref m7, .ref m8, .int (nI rn), .ref m9, .int (nI tn), .int (nI ia), .int (nI wl), .ref m10, .ref m11, .ref m12, .int (nI si), .ref m13, .ref m14])), (m1, .inl (eI g, 7, .inl rf)), (m2, .inl (eI g, 49, .inl (fun j => nI ((updN S 43 i) j)))), (m8, .inl (eI g, 12, .inl (fun j => nI (rw_ j))))]) hP hD [1, 0, 2, 3] (ndB_ok _ rfl) rfl
                  refine bqeq (tgt := 166) hx hb dX5_whose_156 (by decide) (fun c156 => ?_) (fun c156 => ?_)
                  · skip
                    refine lv_iconst (v := (nI 0)) hx hb dX5_whose_166 (by decide) ?_
                    refine lv_ior hx hb dX5_whose_167 ?_
                    refine lv_istore (lv' := [(5, .int (b ||| (nI 0))), (0, .ref m0), (1, .int (nI k)), (3, .int (nI 43)), (4, .int (nI (S 43))), (6, .int (nI i))]) hx hb dX5_whose_168 hl (by decide) rfl (fun ls hl => ?_)
                    refine lv_iinc (v := (nI (i + 1))) (lv' := [(6, .int (nI (i + 1))), (5, .int (b ||| (nI 0))), (0, .ref m0), (1, .int (nI k)), (3, .int (nI 43)), (4, .int (nI (S 43)))]) hx hb dX5_whose_170 hl (k := 5) rfl (iincP i 1) (by decide) rfl (fun ls hl => ?_)
                    refine lv_goto (tgt := 127) hx hb dX5_whose_173 (by decide) ?_
                    exact ih127 (i + 1, (b ||| (nI 0)), (updN S 43 i)) (show (b ||| (nI 0)) = bitsI (fun n => decide (toldR (fun v r => tl (S 41) (S 42) n (S 46) (S 47) v r) rw_ rn)) (i + 1) ∧ (i + 1) ≤ 10 ∧ ∃ e, (updN S 43 i) = updN S 43 e from (⟨(or_nI0 b).trans (bits_off (P := (fun n => decide (toldR (fun v r => tl (S 41) (S 42) n (S 46) (S 47) v r) rw_ rn))) hb0 (by have := c156; rw [tlS_43] at this; exact fun q => this (of_decide_eq_true q))), by omega, ⟨i, rfl⟩⟩)) (show 10 - (i + 1) < 10 - i from (by omega)) _ _ _ hP hD hS (lv_sub hl [2, 3, 4, 5, 1, 0] rfl)
                  · skip
                    refine lv_iconst (v := (nI 1)) hx hb dX5_whose_159 (by decide) ?_
                    refine lv_iload hx hb dX5_whose_160 (lv_at hl 5 rfl) ?_
                    refine lv_ishl hx hb dX5_whose_162 ?_
                    refine lv_goto (tgt := 167) hx hb dX5_whose_163 (by decide) ?_
                    refine lv_ior hx hb dX5_whose_167 ?_
                    refine lv_istore (lv' := [(5, .int (b ||| ((nI 1) <<< ((nI i) &&& 31)))), (0, .ref m0), (1, .int (nI k)), (3, .int (nI 43)), (4, .int (nI (S 43))), (6, .int (nI i))]) hx hb dX5_whose_168 hl (by decide) rfl (fun ls hl => ?_)
                    refine lv_iinc (v := (nI (i + 1))) (lv' := [(6, .int (nI (i + 1))), (5, .int (b ||| ((nI 1) <<< ((nI i) &&& 31)))), (0, .ref m0), (1, .int (nI k)), (3, .int (nI 43)), (4, .int (nI (S 43)))]) hx hb dX5_whose_170 hl (k := 5) rfl (iincP i 1) (by decide) rfl (fun ls hl => ?_)
                    refine lv_goto (tgt := 127) hx hb dX5_whose_173 (by decide) ?_
                    exact ih127 (i + 1, (b ||| ((nI 1) <<< ((nI i) &&& 31))), (updN S 43 i)) (show (b ||| ((nI 1) <<< ((nI i) &&& 31))) = bitsI (fun n => decide (toldR (fun v r => tl (S 41) (S 42) n (S 46) (S 47) v r) rw_ rn)) (i + 1) ∧ (i + 1) ≤ 10 ∧ ∃ e, (updN S 43 i) = updN S 43 e from (⟨bits_on (P := (fun n => decide (toldR (fun v r => tl (S 41) (S 42) n (S 46) (S 47) v r) rw_ rn))) hb0 (by have := c156; rw [tlS_43] at this; exact decide_eq_true this), by omega, ⟨i, rfl⟩⟩)) (show 10 - (i + 1) < 10 - i from (by omega)) _ _ _ hP hD hS (lv_sub hl [2, 3, 4, 5, 1, 0] rfl)
              · skip
                exfalso; omega
            · skip
              refine lv_bipush (v := (nI 47)) hx hb dX5_whose_105 (by decide) ?_
              refine lv_goto (tgt := 112) hx hb dX5_whose_107 (by decide) ?_
              refine lv_istore_n (lv' := [(3, .int (nI 47)), (0, .ref m0), (1, .int (nI k)), (2, .int (nI z))]) hx hb dX5_whose_112 rfl hl (by decide) rfl (fun ls hl => ?_)
              refine lv_aload_n hx hb dX5_whose_113 rfl (lv_at hl 1 rfl) ?_
              refine xget F hP inX5_whose_X5 0 rfl rfl 1 (by decide) lkX5_whose_3 rfl dX5_whose_114 ?_
              refine lv_iload_n hx hb dX5_whose_117 rfl (lv_at hl 0 rfl) ?_
              refine xald F hP 2 (v := (nI (S 47))) rfl (by omega) (by omega) rfl dX5_whose_118 ?_
              refine lv_istore (lv' := [(4, .int (nI (S 47))), (3, .int (nI 47)), (0, .ref m0), (1, .int (nI k)), (2, .int (nI z))]) hx hb dX5_whose_119 hl (by decide) rfl (fun ls hl => ?_)
              refine lv_iconst (v := (nI 0)) hx hb dX5_whose_121 (by decide) ?_
              refine lv_istore (lv' := [(5, .int (nI 0)), (4, .int (nI (S 47))), (3, .int (nI 47)), (0, .ref m0), (1, .int (nI k)), (2, .int (nI z))]) hx hb dX5_whose_122 hl (by decide) rfl (fun ls hl => ?_)
              refine lv_iconst (v := (nI 0)) hx hb dX5_whose_124 (by decide) ?_
              refine lv_istore (lv' := [(6, .int (nI 0)), (5, .int (nI 0)), (4, .int (nI (S 47))), (3, .int (nI 47)), (0, .ref m0), (1, .int (nI k)), (2, .int (nI z))]) hx hb dX5_whose_125 hl (by decide) rfl (fun ls hl => ?_)
              refine xlo (σ := Nat × Int32 × (Nat → Nat)) 7 (fun xz_ => (fun (i : Nat) (b : Int32) (V : Nat → Nat) => [(0, .ref m0), (1, .int (nI k)), (3, .int (nI 47)), (4, .int (nI (S 47))), (5, .int b), (6, .int (nI i))]) xz_.1 xz_.2.1 xz_.2.2) (fun xz_ => (fun (i : Nat) (b : Int32) (V : Nat → Nat) => [(m0, .inr (5, [.ref m1, .ref m2, .ref m3, .int (nI kp), .ref m4, .ref m5, .ref m6, .ref m7, .ref m8, .int (nI rn), .ref m9, .int (nI tn), .int (nI ia), .int (nI wl), .ref m10, .ref m11, .ref m12, .int (nI si), .ref m13, .ref m14])), (m1, .inl (eI g, 7, .inl rf)), (m2, .inl (eI g, 49, .inl (fun j => nI (V j)))), (m8, .inl (eI g, 12, .inl (fun j => nI (rw_ j))))]) xz_.1 xz_.2.1 xz_.2.2) (fun xz_ => (fun (i : Nat) (b : Int32) (V : Nat → Nat) => b = bitsI (fun n => decide (toldR (fun v r => tl (S 41) (S 42) (S 43) (S 46) n v r) rw_ rn)) i ∧ i ≤ 5 ∧ ∃ e, V = updN S 47 e) xz_.1 xz_.2.1 xz_.2.2) (fun xz_ => (fun (i : Nat) (b : Int32) (V : Nat → Nat) => 5 - i) xz_.1 xz_.2.1 xz_.2.2) (fun xz_ hI ih127 H locs ls hP hD hS hl => ?_) (0, (nI 0), S) (show (nI 0) = bitsI (fun n => decide (toldR (fun v r => tl (S 41) (S 42) (S 43) (S 46) n v r) rw_ rn)) 0 ∧ 0 ≤ 5 ∧ ∃ e, S = updN S 47 e from (⟨rfl, by omega, ⟨S 47, (updN_self _ _).symm⟩⟩)) hP hD hS (lv_sub hl [4, 5, 3, 2, 1, 0] rfl)
              obtain ⟨i, b, V⟩ := xz_
              have hP : va_P (eD g) vwCl [(m0, .inr (5, [.ref m1, .ref m2, .ref m3, .int (nI kp), .ref m4, .ref m5, .ref m6, .ref m7, .ref m8, .int (nI rn), .ref m9, .int (nI tn), .int (nI ia), .int (nI wl), .ref m10, .ref m11, .ref m12, .int (nI si), .ref m13, .ref m14])), (m1, .inl (eI g, 7, .inl rf)), (m2, .inl (eI g, 49, .inl (fun j => nI (V j)))), (m8, .inl (eI g, 12, .inl (fun j => nI (rw_ j))))] H := hP
              have hD : va_D A [(m0, .inr (5, [.ref m1, .ref m2, .ref m3, .int (nI kp), .ref m4, .ref m5, .ref m6, .ref m7, .ref m8, .int (nI rn), .ref m9, .int (nI tn), .int (nI ia), .int (nI wl), .ref m10, .ref m11, .ref m12, .int (nI si), .ref m13, .ref m14])), (m1, .inl (eI g, 7, .inl rf)), (m2, .inl (eI g, 49, .inl (fun j => nI (V j)))), (m8, .inl (eI g, 12, .inl (fun j => nI (rw_ j))))] := hD
              have hl : lv_has ls 7 [(0, .ref m0), (1, .int (nI k)), (3, .int (nI 47)), (4, .int (nI (S 47))), (5, .int b), (6, .int (nI i))] := hl
              have hI127 : b = bitsI (fun n => decide (toldR (fun v r => tl (S 41) (S 42) (S 43) (S 46) n v r) rw_ rn)) i ∧ i ≤ 5 ∧ ∃ e, V = updN S 47 e := hI
              clear hI
              obtain ⟨hb0, hi2, hV0⟩ := id hI127
              refine lv_iload hx hb dX5_whose_127 (lv_at hl 5 rfl) ?_
              refine lv_iload_n hx hb dX5_whose_129 rfl (lv_at hl 1 rfl) ?_
              refine zne (tgt := 137) hx hb dX5_whose_130 (by decide) (by omega) (fun c130 => ?_) (fun c130 => ?_)
              · skip
                exfalso; omega
              · skip
                refine lv_iconst (v := (nI 5)) hx hb dX5_whose_133 (by decide) ?_
                refine lv_goto (tgt := 139) hx hb dX5_whose_134 (by decide) ?_
                refine xge (tgt := 176) hx hb dX5_whose_139 (by decide) (by omega) (by omega) (fun c139 => ?_) (fun c139 => ?_)
                · skip
                  refine lv_aload_n hx hb dX5_whose_176 rfl (lv_at hl 0 rfl) ?_
                  refine xget F hP inX5_whose_X5 0 rfl rfl 1 (by decide) lkX5_whose_3 rfl dX5_whose_177 ?_
                  refine lv_iload_n hx hb dX5_whose_180 rfl (lv_at hl 2 rfl) ?_
                  refine lv_iload hx hb dX5_whose_181 (lv_at hl 3 rfl) ?_
                  refine xast F hP hD hS 2 (f' := fun j => nI ((updN V 47 (S 47)) j)) rfl (by omega) (by omega) (upd_nI V 47 (S 47)) dX5_whose_183 (fun H locs hP hD hS => ?_)
                  have hP : va_P (eD g) vwCl [(m0, .inr (5, [.ref m1, .ref m2, .ref m3, .int (nI kp), .ref m4, .ref m5, .ref m6, .ref m7, .ref m8, .int (nI rn), .ref m9, .int (nI tn), .int (nI ia), .int (nI wl), .ref m10, .ref m11, .ref m12, .int (nI si), .ref m13, .ref m14])), (m1, .inl (eI g, 7, .inl rf)), (m2, .inl (eI g, 49, .inl (fun j => nI ((updN V 47 (S 47)) j)))), (m8, .inl (eI g, 12, .inl (fun j => nI (rw_ j))))] H := hP
                  have hD : va_D A [(m0, .inr (5, [.ref m1, .ref m2, .ref m3, .int (nI kp), .ref m4, .ref m5, .ref m6, .ref m7, .ref m8, .int (nI rn), .ref m9, .int (nI tn), .int (nI ia), .int (nI wl), .ref m10, .ref m11, .ref m12, .int (nI si), .ref m13, .ref m14])), (m1, .inl (eI g, 7, .inl rf)), (m2, .inl (eI g, 49, .inl (fun j => nI ((updN V 47 (S 47)) j)))), (m8, .inl (eI g, 12, .inl (fun j => nI (rw_ j))))] := hD
                  rw [show (updN V 47 (S 47)) = S from (by obtain ⟨e, he⟩ := hV0; rw [he, updN_2, updN_self])] at hP hD
                  have hP : va_P (eD g) vwCl [(m0, .inr (5, [.ref m1, .ref m2, .ref m3, .int (nI kp), .ref m4, .ref m5, .ref m6, .ref m7, .ref m8, .int (nI rn), .ref m9, .int (nI tn), .int (nI ia), .int (nI wl), .ref m10, .ref m11, .ref m12, .int (nI si), .ref m13, .ref m14])), (m1, .inl (eI g, 7, .inl rf)), (m2, .inl (eI g, 49, .inl (fun j => nI ((S) j)))), (m8, .inl (eI g, 12, .inl (fun j => nI (rw_ j))))] H := hP
                  have hD : va_D A [(m0, .inr (5, [.ref m1, .ref m2, .ref m3, .int (nI kp), .ref m4, .ref m5, .ref m6, .ref m7, .ref m8, .int (nI rn), .ref m9, .int (nI tn), .int (nI ia), .int (nI wl), .ref m10, .ref m11, .ref m12, .int (nI si), .ref m13, .ref m14])), (m1, .inl (eI g, 7, .inl rf)), (m2, .inl (eI g, 49, .inl (fun j => nI ((S) j)))), (m8, .inl (eI g, 12, .inl (fun j => nI (rw_ j))))] := hD
                  refine lv_iload hx hb dX5_whose_184 (lv_at hl 4 rfl) ?_
                  exact rtI F hP hD hS dX5_whose_186 (by rw [show (if (nI k).toInt < 0 ∨ 1 < (nI k).toInt then 2 else if okR rw_ rn then 0 else 3) = 0 from (by (try simp only [nI_tI hk_]); rw [if_neg (by omega), if_pos hok])]; exact ⟨by rw [rsp_0, nI_tI hk_, if_pos (by omega), hb0, show i = 5 by omega], rfl⟩)
                · skip
                  refine lv_aload_n hx hb dX5_whose_142 rfl (lv_at hl 0 rfl) ?_
                  refine xget F hP inX5_whose_X5 0 rfl rfl 1 (by decide) lkX5_whose_3 rfl dX5_whose_143 ?_
                  refine lv_iload_n hx hb dX5_whose_146 rfl (lv_at hl 2 rfl) ?_
                  refine lv_iload hx hb dX5_whose_147 (lv_at hl 5 rfl) ?_
                  refine xast F hP hD hS 2 (f' := fun j => nI ((updN V 47 i) j)) rfl (by omega) (by omega) (upd_nI V 47 i) dX5_whose_149 (fun H locs hP hD hS => ?_)
                  have hP : va_P (eD g) vwCl [(m0, .inr (5, [.ref m1, .ref m2, .ref m3, .int (nI kp), .ref m4, .ref m5, .ref m6, .ref m7, .ref m8, .int (nI rn), .ref m9, .int (nI tn), .int (nI ia), .int (nI wl), .ref m10, .ref m11, .ref m12, .int (nI si), .ref m13, .ref m14])), (m1, .inl (eI g, 7, .inl rf)), (m2, .inl (eI g, 49, .inl (fun j => nI ((updN V 47 i) j)))), (m8, .inl (eI g, 12, .inl (fun j => nI (rw_ j))))] H := hP
                  have hD : va_D A [(m0, .inr (5, [.ref m1, .ref m2, .ref m3, .int (nI kp), .ref m4, .ref m5, .ref m6, .ref m7, .ref m8, .int (nI rn), .ref m9, .int (nI tn), .int (nI ia), .int (nI wl), .ref m10, .ref m11, .ref m12, .int (nI si), .ref m13, .ref m14])), (m1, .inl (eI g, 7, .inl rf)), (m2, .inl (eI g, 49, .inl (fun j => nI ((updN V 47 i) j)))), (m8, .inl (eI g, 12, .inl (fun j => nI (rw_ j))))] := hD
                  rw [show (updN V 47 i) = (updN S 47 i) from (by obtain ⟨e, he⟩ := hV0; rw [he, updN_2])] at hP hD
                  have hP : va_P (eD g) vwCl [(m0, .inr (5, [.ref m1, .ref m2, .ref m3, .int (nI kp), .ref m4, .ref m5, .ref m6, .ref m7, .ref m8, .int (nI rn), .ref m9, .int (nI tn), .int (nI ia), .int (nI wl), .ref m10, .ref m11, .ref m12, .int (nI si), .ref m13, .ref m14])), (m1, .inl (eI g, 7, .inl rf)), (m2, .inl (eI g, 49, .inl (fun j => nI ((updN S 47 i) j)))), (m8, .inl (eI g, 12, .inl (fun j => nI (rw_ j))))] H := hP
                  have hD : va_D A [(m0, .inr (5, [.ref m1, .ref m2, .ref m3, .int (nI kp), .ref m4, .ref m5, .ref m6, .ref m7, .ref m8, .int (nI rn), .ref m9, .int (nI tn), .int (nI ia), .int (nI wl), .ref m10, .ref m11, .ref m12, .int (nI si), .ref m13, .ref m14])), (m1, .inl (eI g, 7, .inl rf)), (m2, .inl (eI g, 49, .inl (fun j => nI ((updN S 47 i) j)))), (m8, .inl (eI g, 12, .inl (fun j => nI (rw_ j))))] := hD
                  refine lv_iload hx hb dX5_whose_150 (lv_at hl 4 rfl) ?_
                  refine lv_aload_n hx hb dX5_whose_152 rfl (lv_at hl 0 rfl) ?_
                  refine cVI (As := []) (rest := [.int b]) F (c_X5_isAllSo l g m0 m1 m2 m3 m4 m5 m6 m7 m8 m9 m10 m11 m12 m13 m14 kp rn tn ia wl si (updN S 47 i) rw_ (by first | exact okS_47 hO (by omega) | exact okS_43 hO (by omega)) (hok) (hrn) (hrw)) kX5_isAllSo rfl gX5_whose_X5_isAllSo rfl rfl ⟨Nat.le_of_ble_eq_true rfl, Nat.le_of_ble_eq_true rfl⟩ hP hD hS [0, 2, 3] [1] rfl rfl 0 rfl rfl hl.1 rfl rfl (Nat.le_of_ble_eq_true rfl) dX5_whose_153 ⟨Nat.le_of_ble_eq_true rfl, Nat.le_of_ble_eq_true rfl⟩ (fun rz w1 H locs hpo hP hD hS => ?_)
                  obtain ⟨rfl, rfl⟩ := hpo
                  obtain ⟨hP, hD⟩ := nx (ws' := [(m0, .inr (5, [.ref m1, .ref m2, .ref m3, .int (nI kp), .ref m4, .ref m5, .ref m6, .ref m7, .ref m8, .int (nI rn), .ref m9, .int (nI tn), .int (nI ia), .int (nI wl), .ref m10, .ref m11, .ref m12, .int (nI si), .ref m13, .ref m14])), (m1, .inl (eI g, 7, .inl rf)), (m2, .inl (eI g, 49, .inl (fun j => nI ((updN S 47 i) j)))), (m8, .inl (eI g, 12, .inl (fun j => nI (rw_ j))))]) hP hD [1, 0, 2, 3] (ndB_ok _ rfl) rfl
                  refine bqeq (tgt := 166) hx hb dX5_whose_156 (by decide) (fun c156 => ?_) (fun c156 => ?_)
                  · skip
                    refine lv_iconst (v := (nI 0)) hx hb dX5_whose_166 (by decide) ?_
                    refine lv_ior hx hb dX5_whose_167 ?_
                    refine lv_istore (lv' := [(5, .int (b ||| (nI 0))), (0, .ref m0), (1, .int (nI k)), (3, .int (nI 47)), (4, .int (nI (S 47))), (6, .int (nI i))]) hx hb dX5_whose_168 hl (by decide) rfl (fun ls hl => ?_)
                    refine lv_iinc (v := (nI (i + 1))) (lv' := [(6, .int (nI (i + 1))), (5, .int (b ||| (nI 0))), (0, .ref m0), (1, .int (nI k)), (3, .int (nI 47)), (4, .int (nI (S 47)))]) hx hb dX5_whose_170 hl (k := 5) rfl (iincP i 1) (by decide) rfl (fun ls hl => ?_)
                    refine lv_goto (tgt := 127) hx hb dX5_whose_173 (by decide) ?_
                    exact ih127 (i + 1, (b ||| (nI 0)), (updN S 47 i)) (show (b ||| (nI 0)) = bitsI (fun n => decide (toldR (fun v r => tl (S 41) (S 42) (S 43) (S 46) n v r) rw_ rn)) (i + 1) ∧ (i + 1) ≤ 5 ∧ ∃ e, (updN S 47 i) = updN S 47 e from (⟨(or_nI0 b).trans (bits_off (P := (fun n => decide (toldR (fun v r => tl (S 41) (S 42) (S 43) (S 46) n v r) rw_ rn))) hb0 (by have := c156; rw [tlS_47] at this; exact fun q => this (of_decide_eq_true q))), by omega, ⟨i, rfl⟩⟩)) (show 5 - (i + 1) < 5 - i from (by omega)) _ _ _ hP hD hS (lv_sub hl [2, 3, 4, 5, 1, 0] rfl)
                  · skip
                    refine lv_iconst (v := (nI 1)) hx hb dX5_whose_159 (by decide) ?_
                    refine lv_iload hx hb dX5_whose_160 (lv_at hl 5 rfl) ?_
                    refine lv_ishl hx hb dX5_whose_162 ?_
                    refine lv_goto (tgt := 167) hx hb dX5_whose_163 (by decide) ?_
                    refine lv_ior hx hb dX5_whose_167 ?_
                    refine lv_istore (lv' := [(5, .int (b ||| ((nI 1) <<< ((nI i) &&& 31)))), (0, .ref m0), (1, .int (nI k)), (3, .int (nI 47)), (4, .int (nI (S 47))), (6, .int (nI i))]) hx hb dX5_whose_168 hl (by decide) rfl (fun ls hl => ?_)
                    refine lv_iinc (v := (nI (i + 1))) (lv' := [(6, .int (nI (i + 1))), (5, .int (b ||| ((nI 1) <<< ((nI i) &&& 31)))), (0, .ref m0), (1, .int (nI k)), (3, .int (nI 47)), (4, .int (nI (S 47)))]) hx hb dX5_whose_170 hl (k := 5) rfl (iincP i 1) (by decide) rfl (fun ls hl => ?_)
                    refine lv_goto (tgt := 127) hx hb dX5_whose_173 (by decide) ?_
                    exact ih127 (i + 1, (b ||| ((nI 1) <<< ((nI i) &&& 31))), (updN S 47 i)) (show (b ||| ((nI 1) <<< ((nI i) &&& 31))) = bitsI (fun n => decide (toldR (fun v r => tl (S 41) (S 42) (S 43) (S 46) n v r) rw_ rn)) (i + 1) ∧ (i + 1) ≤ 5 ∧ ∃ e, (updN S 47 i) = updN S 47 e from (⟨bits_on (P := (fun n => decide (toldR (fun v r => tl (S 41) (S 42) (S 43) (S 46) n v r) rw_ rn))) hb0 (by have := c156; rw [tlS_47] at this; exact decide_eq_true this), by omega, ⟨i, rfl⟩⟩)) (show 5 - (i + 1) < 5 - i from (by omega)) _ _ _ hP hD hS (lv_sub hl [2, 3, 4, 5, 1, 0] rfl)
          · skip
            have hok : ¬ okR rw_ rn := fun q => by rcases hz0 with h | h; exact absurd h.1 (by omega); exact h.2 ⟨q.1, fun j hj => q.2 j (by omega)⟩
            refine lv_aload_n hx hb dX5_whose_94 rfl (lv_at hl 0 rfl) ?_
            refine lv_bipush (v := (-3)) hx hb dX5_whose_95 (by decide) ?_
            refine cVI (As := [.int (-3)]) (rest := []) F (c_X5_no l g m0 m1 m2 m3 m4 m5 m6 m7 m8 m9 m10 m11 m12 m13 m14 kp rn tn ia wl si rf (-3) 3 (by decide) (by omega) (by omega)) kX5_no rfl gX5_whose_X5_no rfl rfl ⟨Nat.le_of_ble_eq_true rfl, Nat.le_of_ble_eq_true rfl⟩ hP hD hS [0, 1] [2, 3] rfl rfl 0 rfl rfl hl.1 rfl rfl (Nat.le_of_ble_eq_true rfl) dX5_whose_97 ⟨Nat.le_of_ble_eq_true rfl, Nat.le_of_ble_eq_true rfl⟩ (fun rz w1 H locs hpo hP hD hS => ?_)
            obtain ⟨rfl, rfl⟩ := hpo
            obtain ⟨hP, hD⟩ := nx (ws' := [(m0, .inr (5, [.ref m1, .ref m2, .ref m3, .int (nI kp), .ref m4, .ref m5, .ref m6, .ref m7, .ref m8, .int (nI rn), .ref m9, .int (nI tn), .int (nI ia), .int (nI wl), .ref m10, .ref m11, .ref m12, .int (nI si), .ref m13, .ref m14])), (m1, .inl (eI g, 7, .inl (bump rf 3))), (m2, .inl (eI g, 49, .inl (fun j => nI (S j)))), (m8, .inl (eI g, 12, .inl (fun j => nI (rw_ j))))]) hP hD [2, 3, 0, 1] (ndB_ok _ rfl) rfl
            exact rtI F hP hD hS dX5_whose_100 (by rw [show (if (nI k).toInt < 0 ∨ 1 < (nI k).toInt then 2 else if okR rw_ rn then 0 else 3) = 3 from (by (try simp only [nI_tI hk_]); rw [if_neg (by omega), if_neg hok])]; exact ⟨by rfl, rfl⟩)
        · skip
          refine lv_iload_n hx hb dX5_whose_41 rfl (lv_at hl 2 rfl) ?_
          refine zeq (tgt := 82) hx hb dX5_whose_42 (by decide) (by omega) (fun c42 => ?_) (fun c42 => ?_)
          · skip
            refine lv_iconst (v := (nI 0)) hx hb dX5_whose_82 (by decide) ?_
            refine lv_istore_n (lv' := [(2, .int (nI 0)), (0, .ref m0), (1, .int (nI k)), (3, .int (nI i))]) hx hb dX5_whose_83 rfl hl (by decide) rfl (fun ls hl => ?_)
            refine lv_iinc (v := (nI (i + 1))) (lv' := [(3, .int (nI (i + 1))), (2, .int (nI 0)), (0, .ref m0), (1, .int (nI k))]) hx hb dX5_whose_84 hl (k := 3) rfl (iincP i 1) (by decide) rfl (fun ls hl => ?_)
            refine lv_goto (tgt := 33) hx hb dX5_whose_87 (by decide) ?_
            exact ih33 (i + 1, 0) (show ((0 = 1 ∧ (rn % 3 = 0 ∧ ∀ j, j < (i + 1) → cdR rw_ j)) ∨ (0 = 0 ∧ ¬ (rn % 3 = 0 ∧ ∀ j, j < (i + 1) → cdR rw_ j))) ∧ (i + 1) ≤ rn ∧ 0 ≤ 1 from (⟨Or.inr ⟨rfl, fun q => by rcases hz0 with h | h; exact absurd h.1 (by omega); exact h.2 ⟨q.1, fun j hj => q.2 j (by omega)⟩⟩, by omega, by omega⟩)) (show rn - (i + 1) < rn - i from (by omega)) _ _ _ hP hD hS (lv_sub hl [2, 3, 1, 0] rfl)
          · skip
            have hq1 : (rn % 3 = 0 ∧ ∀ j, j < i → cdR rw_ j) := (hz0.resolve_right (fun q => c42 q.1)).2
            refine lv_iload_n hx hb dX5_whose_45 rfl (lv_at hl 3 rfl) ?_
            refine lv_iconst (v := (nI 3)) hx hb dX5_whose_46 (by decide) ?_
            refine xrem hx hb (by omega) (by omega) (by omega) dX5_whose_47 ?_
            refine lv_iconst (v := (nI 2)) hx hb dX5_whose_48 (by decide) ?_
            refine xne (tgt := 66) hx hb dX5_whose_49 (by decide) (by omega) (by omega) (fun c49 => ?_) (fun c49 => ?_)
            · skip
              refine lv_aload_n hx hb dX5_whose_66 rfl (lv_at hl 0 rfl) ?_
              refine xget F hP inX5_whose_X5 0 rfl rfl 8 (by decide) lkX5_whose_2 rfl dX5_whose_67 ?_
              refine lv_iload_n hx hb dX5_whose_70 rfl (lv_at hl 3 rfl) ?_
              refine xald F hP 3 (v := (nI (rw_ i))) rfl (by omega) (by omega) rfl dX5_whose_71 ?_
              have hbd22 := hrw (i)
              refine cSI (As := [.int (nI (rw_ i))]) (rest := []) F (n_X5_isNoSecond l g (rw_ i) (by omega)) kX5_isNoSecond gX5_whose_X5_isNoSecond rfl rfl ⟨Nat.le_of_ble_eq_true rfl, Nat.le_of_ble_eq_true rfl⟩ hP hD hS [] [0, 1, 2, 3] rfl rfl hl.1 rfl rfl (Nat.le_of_ble_eq_true rfl) dX5_whose_72 ⟨Nat.le_of_ble_eq_true rfl, Nat.le_of_ble_eq_true rfl⟩ (fun rz w1 H locs hpo hP hD hS => ?_)
              obtain ⟨rfl, rfl⟩ := hpo
              obtain ⟨hP, hD⟩ := nx (ws' := [(m0, .inr (5, [.ref m1, .ref m2, .ref m3, .int (nI kp), .ref m4, .ref m5, .ref m6, .ref m7, .ref m8, .int (nI rn), .ref m9, .int (nI tn), .int (nI ia), .int (nI wl), .ref m10, .ref m11, .ref m12, .int (nI si), .ref m13, .ref m14])), (m1, .inl (eI g, 7, .inl rf)), (m2, .inl (eI g, 49, .inl (fun j => nI (S j)))), (m8, .inl (eI g, 12, .inl (fun j => nI (rw_ j))))]) hP hD [0, 1, 2, 3] (ndB_ok _ rfl) rfl
              refine bqne (tgt := 82) hx hb dX5_whose_75 (by decide) (fun c75 => ?_) (fun c75 => ?_)
              · skip
                refine lv_iconst (v := (nI 0)) hx hb dX5_whose_82 (by decide) ?_
                refine lv_istore_n (lv' := [(2, .int (nI 0)), (0, .ref m0), (1, .int (nI k)), (3, .int (nI i))]) hx hb dX5_whose_83 rfl hl (by decide) rfl (fun ls hl => ?_)
                refine lv_iinc (v := (nI (i + 1))) (lv' := [(3, .int (nI (i + 1))), (2, .int (nI 0)), (0, .ref m0), (1, .int (nI k))]) hx hb dX5_whose_84 hl (k := 3) rfl (iincP i 1) (by decide) rfl (fun ls hl => ?_)
                refine lv_goto (tgt := 33) hx hb dX5_whose_87 (by decide) ?_
                exact ih33 (i + 1, 0) (show ((0 = 1 ∧ (rn % 3 = 0 ∧ ∀ j, j < (i + 1) → cdR rw_ j)) ∨ (0 = 0 ∧ ¬ (rn % 3 = 0 ∧ ∀ j, j < (i + 1) → cdR rw_ j))) ∧ (i + 1) ≤ rn ∧ 0 ≤ 1 from (⟨Or.inr ⟨rfl, fun q => by have := cdR_use (q.2 i (by omega)); omega⟩, by omega, by omega⟩)) (show rn - (i + 1) < rn - i from (by omega)) _ _ _ hP hD hS (lv_sub hl [2, 3, 1, 0] rfl)
              · skip
                refine lv_iconst (v := (nI 1)) hx hb dX5_whose_78 (by decide) ?_
                refine lv_goto (tgt := 83) hx hb dX5_whose_79 (by decide) ?_
                refine lv_istore_n (lv' := [(2, .int (nI 1)), (0, .ref m0), (1, .int (nI k)), (3, .int (nI i))]) hx hb dX5_whose_83 rfl hl (by decide) rfl (fun ls hl => ?_)
                refine lv_iinc (v := (nI (i + 1))) (lv' := [(3, .int (nI (i + 1))), (2, .int (nI 1)), (0, .ref m0), (1, .int (nI k))]) hx hb dX5_whose_84 hl (k := 3) rfl (iincP i 1) (by decide) rfl (fun ls hl => ?_)
                refine lv_goto (tgt := 33) hx hb dX5_whose_87 (by decide) ?_
                exact ih33 (i + 1, 1) (show ((1 = 1 ∧ (rn % 3 = 0 ∧ ∀ j, j < (i + 1) → cdR rw_ j)) ∨ (1 = 0 ∧ ¬ (rn % 3 = 0 ∧ ∀ j, j < (i + 1) → cdR rw_ j))) ∧ (i + 1) ≤ rn ∧ 1 ≤ 1 from (⟨Or.inl ⟨rfl, hq1.1, cd_1 hq1.2 (by unfold cdR; rw [if_neg c49]; omega)⟩, by omega, by omega⟩)) (show rn - (i + 1) < rn - i from (by omega)) _ _ _ hP hD hS (lv_sub hl [2, 3, 1, 0] rfl)
            · skip
              refine lv_aload_n hx hb dX5_whose_52 rfl (lv_at hl 0 rfl) ?_
              refine xget F hP inX5_whose_X5 0 rfl rfl 8 (by decide) lkX5_whose_2 rfl dX5_whose_53 ?_
              refine lv_iload_n hx hb dX5_whose_56 rfl (lv_at hl 3 rfl) ?_
              refine xald F hP 3 (v := (nI (rw_ i))) rfl (by omega) (by omega) rfl dX5_whose_57 ?_
              have hbd24 := hrw (i)
              refine lv_bipush (v := (nI 8)) hx hb dX5_whose_58 (by decide) ?_
              refine xgt (tgt := 82) hx hb dX5_whose_60 (by decide) (by omega) (by omega) (fun c60 => ?_) (fun c60 => ?_)
              · skip
                refine lv_iconst (v := (nI 0)) hx hb dX5_whose_82 (by decide) ?_
                refine lv_istore_n (lv' := [(2, .int (nI 0)), (0, .ref m0), (1, .int (nI k)), (3, .int (nI i))]) hx hb dX5_whose_83 rfl hl (by decide) rfl (fun ls hl => ?_)
                refine lv_iinc (v := (nI (i + 1))) (lv' := [(3, .int (nI (i + 1))), (2, .int (nI 0)), (0, .ref m0), (1, .int (nI k))]) hx hb dX5_whose_84 hl (k := 3) rfl (iincP i 1) (by decide) rfl (fun ls hl => ?_)
                refine lv_goto (tgt := 33) hx hb dX5_whose_87 (by decide) ?_
                exact ih33 (i + 1, 0) (show ((0 = 1 ∧ (rn % 3 = 0 ∧ ∀ j, j < (i + 1) → cdR rw_ j)) ∨ (0 = 0 ∧ ¬ (rn % 3 = 0 ∧ ∀ j, j < (i + 1) → cdR rw_ j))) ∧ (i + 1) ≤ rn ∧ 0 ≤ 1 from (⟨Or.inr ⟨rfl, fun q => by have := cdR_use (q.2 i (by omega)); omega⟩, by omega, by omega⟩)) (show rn - (i + 1) < rn - i from (by omega)) _ _ _ hP hD hS (lv_sub hl [2, 3, 1, 0] rfl)
              · skip
                refine lv_goto (tgt := 78) hx hb dX5_whose_63 (by decide) ?_
                refine lv_iconst (v := (nI 1)) hx hb dX5_whose_78 (by decide) ?_
                refine lv_goto (tgt := 83) hx hb dX5_whose_79 (by decide) ?_
                refine lv_istore_n (lv' := [(2, .int (nI 1)), (0, .ref m0), (1, .int (nI k)), (3, .int (nI i))]) hx hb dX5_whose_83 rfl hl (by decide) rfl (fun ls hl => ?_)
                refine lv_iinc (v := (nI (i + 1))) (lv' := [(3, .int (nI (i + 1))), (2, .int (nI 1)), (0, .ref m0), (1, .int (nI k))]) hx hb dX5_whose_84 hl (k := 3) rfl (iincP i 1) (by decide) rfl (fun ls hl => ?_)
                refine lv_goto (tgt := 33) hx hb dX5_whose_87 (by decide) ?_
                exact ih33 (i + 1, 1) (show ((1 = 1 ∧ (rn % 3 = 0 ∧ ∀ j, j < (i + 1) → cdR rw_ j)) ∨ (1 = 0 ∧ ¬ (rn % 3 = 0 ∧ ∀ j, j < (i + 1) → cdR rw_ j))) ∧ (i + 1) ≤ rn ∧ 1 ≤ 1 from (⟨Or.inl ⟨rfl, hq1.1, cd_1 hq1.2 (by unfold cdR; rw [if_pos c49]; exact c60)⟩, by omega, by omega⟩)) (show rn - (i + 1) < rn - i from (by omega)) _ _ _ hP hD hS (lv_sub hl [2, 3, 1, 0] rfl)
    · skip
      refine lv_aload_n hx hb dX5_whose_9 rfl (lv_at hl 0 rfl) ?_
      refine lv_bipush (v := (-2)) hx hb dX5_whose_10 (by decide) ?_
      refine cVI (As := [.int (-2)]) (rest := []) F (c_X5_no l g m0 m1 m2 m3 m4 m5 m6 m7 m8 m9 m10 m11 m12 m13 m14 kp rn tn ia wl si rf (-2) 2 (by decide) (by omega) (by omega)) kX5_no rfl gX5_whose_X5_no rfl rfl ⟨Nat.le_of_ble_eq_true rfl, Nat.le_of_ble_eq_true rfl⟩ hP hD hS [0, 1] [2, 3] rfl rfl 0 rfl rfl hl.1 rfl rfl (Nat.le_of_ble_eq_true rfl) dX5_whose_12 ⟨Nat.le_of_ble_eq_true rfl, Nat.le_of_ble_eq_true rfl⟩ (fun rz w1 H locs hpo hP hD hS => ?_)
      obtain ⟨rfl, rfl⟩ := hpo
      obtain ⟨hP, hD⟩ := nx (ws' := [(m0, .inr (5, [.ref m1, .ref m2, .ref m3, .int (nI kp), .ref m4, .ref m5, .ref m6, .ref m7, .ref m8, .int (nI rn), .ref m9, .int (nI tn), .int (nI ia), .int (nI wl), .ref m10, .ref m11, .ref m12, .int (nI si), .ref m13, .ref m14])), (m1, .inl (eI g, 7, .inl (bump rf 2))), (m2, .inl (eI g, 49, .inl (fun j => nI (S j)))), (m8, .inl (eI g, 12, .inl (fun j => nI (rw_ j))))]) hP hD [2, 3, 0, 1] (ndB_ok _ rfl) rfl
      exact rtI F hP hD hS dX5_whose_15 (by rw [show (if x.toInt < 0 ∨ 1 < x.toInt then 2 else if okR rw_ rn then 0 else 3) = 2 from (by rw [if_pos (by omega)])]; exact ⟨by rfl, rfl⟩)
